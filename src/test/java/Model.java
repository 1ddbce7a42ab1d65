import java.util.ArrayList;
import java.util.Arrays;
import java.util.Comparator;
import java.util.List;
import java.util.function.IntBinaryOperator;

/** The document once more, by other means: trees of functions for the law, all orders and all sets written out. */
final class Model {
    static final int NO = -1000000000;

    interface Number {
        int of(int[] env);
    }

    interface Condition {
        boolean of(int[] env);
    }

    @SuppressWarnings("serial")
    static final class Refused extends RuntimeException {
    }

    @SuppressWarnings("serial")
    static final class Fault extends RuntimeException {
        final int code;

        Fault(int number, int place) {
            code = -1000 * number - place;
        }
    }

    record Clause(char kind, Number value, Condition condition) {
    }

    record Leave(int first, int last) {
        boolean covers(int day) {
            return first <= day && day <= last;
        }
    }

    /** How a course of days differs from the town's own. */
    static final class Course {
        Leave[] leave = new Leave[10];
        boolean[][] idle = new boolean[10][];
        int frontChore = -1;
        int frontPerson = -1;
        int[] more = new int[10];
        int[] undone;
        int day;
        int x;
        int missed;
        int rainy;
        int clear;
        int[] did = new int[10];
        List<Integer> missedByDay = new ArrayList<>();
    }

    Integer[] cap = new Integer[10];
    Integer[] amount = new Integer[12];
    List<List<Integer>> doers = new ArrayList<>();
    int[] undone = new int[12];
    Leave[] leave = new Leave[10];
    List<Clause> clauses = new ArrayList<>();
    int rain;
    int day;
    int x = 1;
    int missed;
    List<Integer> tape = new ArrayList<>();
    Runnable kept;

    Model() {
        for (int i = 0; i < 12; i++) {
            doers.add(List.of());
        }
    }

    // ---- telling

    boolean person(int p, int c) {
        boolean fine = p >= 0 && p < 10 && c >= 0 && c <= 20;
        if (fine) {
            cap[p] = c;
        }
        return fine;
    }

    boolean chore(int i, int a) {
        boolean fine = i >= 0 && i < 12 && a >= 0 && a <= 20;
        if (fine) {
            amount[i] = a;
            undone[i] = 0;
        }
        return fine;
    }

    boolean rain(int tenths) {
        boolean fine = tenths >= 0 && tenths <= 10;
        if (fine) {
            rain = tenths;
        }
        return fine;
    }

    int feed(int... words) {
        if (tape.size() > 240) {
            return -1;
        }
        for (int word : words) {
            for (int k = 3; k >= 0; k--) {
                tape.add(word >>> 8 * k & 255);
            }
        }
        return tape.size();
    }

    private String take(int n, int least, int most) {
        if (n < least || n > most || n > tape.size()) {
            return null;
        }
        StringBuilder text = new StringBuilder();
        for (int k = 0; k < n; k++) {
            text.append((char) (int) tape.get(k));
        }
        tape.clear();
        return text.toString();
    }

    // ---- the law

    static final class Scan {
        final String text;
        int at;

        Scan(String text) {
            this.text = text;
        }

        char peek() {
            return at < text.length() ? text.charAt(at) : (char) 9999;
        }

        boolean digit() {
            return peek() >= '0' && peek() <= '9';
        }

        Fault wrong() {
            return new Fault(1, at);
        }

        void need(char c) {
            if (peek() != c) {
                throw wrong();
            }
            at++;
        }
    }

    int law(int n) {
        String text = take(n, 1, 240);
        if (text == null) {
            return -1;
        }
        try {
            List<Clause> read = new ArrayList<>();
            Scan s = new Scan(text);
            while (true) {
                if ("mnck".indexOf(s.peek()) < 0) {
                    throw s.wrong();
                }
                if (read.size() == 16) {
                    throw new Fault(4, s.at);
                }
                char kind = s.peek();
                s.at++;
                Number value = kind == 'k' ? null : sum(s, 0);
                s.need('(');
                Condition condition = any(s, 1);
                s.need(')');
                read.add(new Clause(kind, value, condition));
                if (s.at == text.length()) {
                    clauses = read;
                    return read.size();
                }
                s.need(';');
            }
        } catch (Fault fault) {
            return fault.code;
        }
    }

    private static Condition any(Scan s, int open) {
        Condition left = all(s, open);
        while (s.peek() == '|') {
            s.at++;
            Condition a = left;
            Condition b = all(s, open);
            left = env -> a.of(env) || b.of(env);
        }
        return left;
    }

    private static Condition all(Scan s, int open) {
        Condition left = piece(s, open);
        while (s.peek() == '&') {
            s.at++;
            Condition a = left;
            Condition b = piece(s, open);
            left = env -> a.of(env) && b.of(env);
        }
        return left;
    }

    private static void open(Scan s, int open) {
        if (open + 1 > 6) {
            throw new Fault(5, s.at);
        }
        s.at++;
    }

    private static Condition piece(Scan s, int open) {
        if (s.peek() == '!') {
            open(s, open);
            Condition a = piece(s, open + 1);
            return env -> !a.of(env);
        }
        if (s.peek() == '(') {
            open(s, open);
            Condition a = any(s, open + 1);
            s.need(')');
            return a;
        }
        Number a = sum(s, open);
        char sign = s.peek();
        if ("<>=".indexOf(sign) < 0) {
            throw s.wrong();
        }
        s.at++;
        Number b = sum(s, open);
        return env -> {
            int left = a.of(env);
            int right = b.of(env);
            return sign == '<' ? left < right : sign == '>' ? left > right : left == right;
        };
    }

    private static Number sum(Scan s, int open) {
        Number left = term(s, open);
        while (s.peek() == '+' || s.peek() == '-') {
            boolean plus = s.peek() == '+';
            s.at++;
            left = both(left, term(s, open), plus ? (a, b) -> a + b : (a, b) -> a - b);
        }
        return left;
    }

    private static Number both(Number a, Number b, IntBinaryOperator how) {
        return env -> how.applyAsInt(a.of(env), b.of(env));
    }

    private static int nonZero(int b) {
        if (b == 0) {
            throw new Refused();
        }
        return b;
    }

    private static Number term(Scan s, int open) {
        Number left = factor(s, open);
        while ("*/%".indexOf(s.peek()) >= 0) {
            char sign = s.peek();
            s.at++;
            left = both(left, factor(s, open), sign == '*' ? (a, b) -> a * b
                    : sign == '/' ? (a, b) -> a / nonZero(b) : (a, b) -> a % nonZero(b));
        }
        return left;
    }

    private static Number factor(Scan s, int open) {
        if (s.peek() == '[') {
            open(s, open);
            Number a = sum(s, open + 1);
            s.need(']');
            return a;
        }
        int letter = "ipxdwrau".indexOf(s.peek());
        if (letter >= 0) {
            s.at++;
            return env -> env[letter];
        }
        if (!s.digit()) {
            throw s.wrong();
        }
        int start = s.at;
        while (s.digit()) {
            if (s.at == start + 5) {
                throw new Fault(2, s.at);
            }
            s.at++;
        }
        int value = Integer.parseInt(s.text.substring(start, s.at));
        return env -> value;
    }

    private static boolean holds(Clause clause, int[] env) {
        try {
            return clause.condition.of(env);
        } catch (Refused refused) {
            return false;
        }
    }

    private int ask(char kind, int usual, int[] env) {
        for (Clause clause : clauses) {
            if (clause.kind == kind && holds(clause, env)) {
                try {
                    return Math.min(99, Math.max(0, clause.value.of(env)));
                } catch (Refused refused) {
                    return 0;
                }
            }
        }
        return usual;
    }

    // ---- doers and leaves

    int doers(int n) {
        String text = take(n, 1, 120);
        if (text == null) {
            return -1;
        }
        try {
            List<List<Integer>> read = new ArrayList<>(doers);
            Scan s = new Scan(text);
            int lines = 0;
            while (true) {
                if (!s.digit()) {
                    throw s.wrong();
                }
                if (lines == 12) {
                    throw new Fault(4, s.at);
                }
                int start = s.at;
                s.at++;
                if (s.digit()) {
                    s.at++;
                }
                int i = Integer.parseInt(text.substring(start, s.at));
                if (i > 11) {
                    throw new Fault(3, start);
                }
                s.need(':');
                List<Integer> row = new ArrayList<>();
                while (s.peek() >= 'a' && s.peek() <= 'j') {
                    int p = s.peek() - 'a';
                    if (row.contains(p)) {
                        throw new Fault(6, s.at);
                    }
                    row.add(p);
                    s.at++;
                }
                if (row.isEmpty()) {
                    throw s.wrong();
                }
                read.set(i, row);
                lines++;
                if (s.at == text.length()) {
                    doers = read;
                    return lines;
                }
                s.need(';');
            }
        } catch (Fault fault) {
            return fault.code;
        }
    }

    private static int dayNumber(Scan s) {
        int start = s.at;
        while (s.digit() && s.at < start + 3) {
            s.at++;
        }
        if (s.at == start || s.digit()) {
            throw s.wrong();
        }
        return Integer.parseInt(s.text.substring(start, s.at));
    }

    int leaves(int n) {
        String text = take(n, 1, 120);
        if (text == null) {
            return -1;
        }
        try {
            Leave[] read = new Leave[10];
            Scan s = new Scan(text);
            int lines = 0;
            while (true) {
                int p = s.peek() - 'a';
                if (p < 0 || p > 9) {
                    throw s.wrong();
                }
                if (lines == 10) {
                    throw new Fault(4, s.at);
                }
                if (read[p] != null) {
                    throw new Fault(6, s.at);
                }
                s.at++;
                int first = dayNumber(s);
                s.need('-');
                int start = s.at;
                int last = dayNumber(s);
                if (last < first) {
                    throw new Fault(7, start);
                }
                read[p] = new Leave(first, last);
                lines++;
                if (s.at == text.length()) {
                    leave = read;
                    return lines;
                }
                s.need(',');
            }
        } catch (Fault fault) {
            return fault.code;
        }
    }

    int home() {
        int had = Integer.bitCount(leaveBits());
        leave = new Leave[10];
        return had;
    }

    private int leaveBits() {
        int bits = 0;
        for (int p = 0; p < 10; p++) {
            bits |= leave[p] == null ? 0 : 1 << p;
        }
        return bits;
    }

    // ---- days

    private Course course() {
        Course c = new Course();
        c.leave = leave.clone();
        c.undone = undone.clone();
        c.day = day;
        c.x = x;
        return c;
    }

    private Course go(Course c, int n) {
        for (int k = 0; k < n && c.day < 9999; k++) {
            goDay(c);
        }
        return c;
    }

    private void goDay(Course c) {
        c.x = (int) ((25173L * c.x + 13849) % 65536);
        int r = c.x % 10 < rain ? 1 : 0;
        int a = 0;
        for (Leave l : c.leave) {
            a += l != null && l.covers(c.day) ? 1 : 0;
        }
        int[] can = new int[10];
        for (int p = 0; p < 10; p++) {
            boolean idle = c.idle[p] != null && c.idle[p][c.day];
            if (cap[p] != null && !idle && (c.leave[p] == null || !c.leave[p].covers(c.day))) {
                int units = cap[p] + c.more[p];
                can[p] = ask('c', units, new int[] {0, p, units, c.day, c.day % 7, r, a, 0});
            }
        }
        int lost = 0;
        boolean clear = true;
        for (int i = 0; i < 12; i++) {
            if (amount[i] == null) {
                continue;
            }
            int[] env = {i, 0, amount[i], c.day, c.day % 7, r, a, c.undone[i]};
            int need = ask('n', amount[i], env);
            if (clauses.stream().anyMatch(clause -> clause.kind == 'k' && holds(clause, env))) {
                need += c.undone[i];
            }
            need = Math.min(99, need);
            List<Integer> row = new ArrayList<>(doers.get(i));
            if (i == c.frontChore) {
                row.remove((Integer) c.frontPerson);
                row.add(0, c.frontPerson);
            }
            for (int p : row) {
                int does = Math.min(need, can[p]);
                need -= does;
                can[p] -= does;
                c.did[p] += does;
            }
            c.undone[i] = need;
            env[7] = need;
            lost += need * ask('m', 0, env);
            clear &= need == 0;
        }
        c.missed += lost;
        c.missedByDay.add(lost);
        c.rainy += r;
        c.clear += clear ? 1 : 0;
        c.day++;
    }

    private static boolean days60(int n) {
        return n >= 1 && n <= 60;
    }

    int days(int n) {
        if (!days60(n)) {
            return -1;
        }
        Course c = go(course(), n);
        undone = c.undone;
        day = c.day;
        x = c.x;
        missed += c.missed;
        return c.missed;
    }

    int tried(int n, int what) {
        if (!days60(n)) {
            return -1;
        }
        Course c = go(course(), n);
        switch (what) {
            case 0: return c.missed;
            case 1: return c.rainy;
            case 2: return Arrays.stream(c.undone).sum();
            case 3: return Arrays.stream(c.did).sum();
            case 4: return c.clear;
            default:
        }
        if (what >= 10 && what < 22 && amount[what - 10] != null) {
            return c.undone[what - 10];
        }
        return told(what - 30) && what >= 30 ? c.did[what - 30] : -1;
    }

    private boolean told(int p) {
        return p >= 0 && p < 10 && cap[p] != null;
    }

    private boolean toldChore(int i) {
        return i >= 0 && i < 12 && amount[i] != null;
    }

    private int toldBits() {
        int bits = 0;
        for (int p = 0; p < 10; p++) {
            bits |= told(p) ? 1 << p : 0;
        }
        return bits;
    }

    private boolean leaves(int p, boolean ignored) {
        return told(p) && leave[p] != null;
    }

    private static List<Integer> members(int set) {
        List<Integer> list = new ArrayList<>();
        for (int p = 0; p < 10; p++) {
            if ((set & 1 << p) != 0) {
                list.add(p);
            }
        }
        return list;
    }

    int personIs(int p, int what) {
        if (!told(p)) {
            return -1;
        }
        int bits = 0;
        for (int i = 0; i < 12; i++) {
            bits |= amount[i] != null && doers.get(i).contains(p) ? 1 << i : 0;
        }
        boolean has = leave[p] != null;
        return switch (what) {
            case 0 -> cap[p];
            case 1 -> has ? leave[p].first : -2;
            case 2 -> has ? leave[p].last : -2;
            case 3 -> has && leave[p].covers(day) ? 1 : 0;
            case 4 -> bits;
            default -> -1;
        };
    }

    int choreIs(int i, int what) {
        if (!toldChore(i)) {
            return -1;
        }
        List<Integer> row = doers.get(i);
        return switch (what) {
            case 0 -> amount[i];
            case 1 -> undone[i];
            case 2 -> row.size();
            default -> what >= 10 && what < 10 + row.size() ? row.get(what - 10) : -1;
        };
    }

    // ---- costs

    private Course only(int set) {
        Course c = course();
        for (int p = 0; p < 10; p++) {
            if ((set & 1 << p) == 0) {
                c.leave[p] = null;
            }
        }
        return c;
    }

    private int v(int set, int n) {
        return go(only(set), n).missed;
    }

    int cost(int set, int n) {
        return days60(n) && set >= 0 && (set | toldBits()) == toldBits() ? v(set, n) : -1;
    }

    int missed(int p, int n) {
        return days60(n) && leaves(p, true) ? v(1 << p, n) - v(0, n) : NO;
    }

    int together(int p, int q, int n) {
        if (!days60(n) || !leaves(p, true) || !leaves(q, true) || p == q) {
            return NO;
        }
        return v(1 << p | 1 << q, n) + v(0, n) - v(1 << p, n) - v(1 << q, n);
    }

    private static List<List<Integer>> orders(List<Integer> of) {
        List<List<Integer>> all = new ArrayList<>();
        if (of.isEmpty()) {
            all.add(new ArrayList<>());
        }
        for (Integer first : of) {
            List<Integer> rest = new ArrayList<>(of);
            rest.remove(first);
            for (List<Integer> order : orders(rest)) {
                order.add(0, first);
                all.add(order);
            }
        }
        return all;
    }

    int share(int set, int p, int n, int what) {
        if (!days60(n) || set < 1 || set > 1023 || what < 0 || what > 2) {
            return NO;
        }
        List<Integer> who = members(set);
        if (who.size() > 5 || !who.stream().allMatch(one -> leaves(one, true)) || what < 2 && !who.contains(p)) {
            return NO;
        }
        int[] value = new int[1024];
        for (int part = 0; part < 1024; part++) {
            value[part] = (part | set) == set ? v(part, n) : 0;
        }
        long[] sum = new long[10];
        List<List<Integer>> orders = orders(who);
        for (List<Integer> order : orders) {
            int gone = 0;
            for (int one : order) {
                sum[one] += value[gone | 1 << one] - value[gone];
                gone |= 1 << one;
            }
        }
        if (what == 2) {
            int best = who.get(0);
            for (int one : who) {
                best = sum[one] > sum[best] ? one : best;
            }
            return best;
        }
        long below = orders.size();
        long above = sum[p];
        for (int d = 2; d <= 120; d++) {
            while (below % d == 0 && above % d == 0) {
                below /= d;
                above /= d;
            }
        }
        return (int) (what == 0 ? above : below);
    }

    private int spoils(int p, int q, int n) {
        int[] much = new int[4];
        for (int k = 0; k < 4; k++) {
            Course c = only(k % 2 == 0 ? 0 : 1 << p);
            if (k >= 2) {
                c.idle[q] = new boolean[10000];
                Arrays.fill(c.idle[q], true);
            }
            much[k] = go(c, n).missed;
        }
        return much[3] - much[2] - (much[1] - much[0]);
    }

    int spoilt(int p, int q, int n) {
        if (!days60(n) || !leaves(p, true) || q != 10 && !told(q) || p == q) {
            return NO;
        }
        if (q < 10) {
            return spoils(p, q, n);
        }
        int best = -2;
        int most = 0;
        for (int one : members(toldBits() & ~(1 << p))) {
            int much = spoils(p, one, n);
            if (much > most) {
                most = much;
                best = one;
            }
        }
        return best;
    }

    int when(int p, int m, int n, int what) {
        if (!told(p) || m < 1 || m > 20 || n < 1 || n > 30 || what < 0 || what > 1) {
            return NO;
        }
        List<Integer> much = new ArrayList<>();
        for (int k = 0; k < n; k++) {
            Course c = course();
            c.leave[p] = new Leave(day + k, day + k + m - 1);
            much.add(go(c, n + m).missed);
        }
        int most = much.stream().max(Comparator.naturalOrder()).get();
        Course stays = course();
        stays.leave[p] = null;
        return what == 0 ? day + much.indexOf(most) : most - go(stays, n + m).missed;
    }

    /** Twice what p gains: its share of both less that of q. */
    private int gain(int p, int q, int s, int t, int m, int n) {
        int[] much = new int[4];
        for (int k = 0; k < 4; k++) {
            Course c = course();
            c.leave[p] = (k & 1) != 0 ? new Leave(day + s * m, day + s * m + m - 1) : null;
            c.leave[q] = (k & 2) != 0 ? new Leave(day + t * m, day + t * m + m - 1) : null;
            much[k] = go(c, n).missed;
        }
        int ofP = much[1] - much[0] + much[3] - much[2];
        int ofQ = much[2] - much[0] + much[3] - much[1];
        return ofP - ofQ;
    }

    int against(int p, int q, int stretches, int m, int what) {
        if (!told(p) || !told(q) || p == q || stretches < 2 || stretches > 5 || m < 1 || m > 10
                || what < 0 || what > 2) {
            return NO;
        }
        int[][] gains = new int[stretches][stretches];
        for (int s = 0; s < stretches; s++) {
            for (int t = 0; t < stretches; t++) {
                gains[s][t] = gain(p, q, s, t, m, stretches * m);
            }
        }
        List<int[]> twos = new ArrayList<>();
        for (int s = 0; s < stretches; s++) {
            for (int t = 0; t < stretches; t++) {
                boolean rests = true;
                for (int k = 0; k < stretches; k++) {
                    rests &= gains[k][t] <= gains[s][t] && -gains[s][k] <= -gains[s][t];
                }
                if (rests) {
                    twos.add(new int[] {s, t});
                }
            }
        }
        return what == 0 ? twos.size() : twos.isEmpty() ? -2 : twos.get(0)[what - 1];
    }

    // ---- who

    private Course away(int set) {
        Course c = only(0);
        for (int p : members(set)) {
            c.leave[p] = new Leave(0, 99999);
        }
        return c;
    }

    int stopped(int n) {
        String text = take(n, 1, 12);
        if (text == null) {
            return -1;
        }
        int bits = 0;
        for (int p = 0; p <= 10; p++) {
            if (p == 10 || told(p)) {
                Course c = go(away(p == 10 ? 0 : 1 << p), 1);
                boolean fits = true;
                for (int i = 0; i < n; i++) {
                    fits &= c.undone[i] == text.charAt(i);
                }
                bits |= fits ? 1 << p : 0;
            }
        }
        return bits;
    }

    private static List<Integer> setsOf(int all) {
        List<Integer> sets = new ArrayList<>();
        for (int set = 0; set < 1024; set++) {
            if ((set | all) == all) {
                sets.add(set);
            }
        }
        sets.sort(Comparator.comparingInt((Integer set) -> Integer.bitCount(set)).thenComparingInt(set -> set));
        return sets;
    }

    int holds(int n, int much, int what) {
        if (n < 1 || n > 20 || much < 0 || much > 999999 || what < 0 || what > 1) {
            return -1;
        }
        int nobody = go(away(0), n).missed;
        for (int set : setsOf(toldBits())) {
            if (go(away(set), n).missed - nobody >= much) {
                return what == 0 ? Integer.bitCount(set) : set;
            }
        }
        return -2;
    }

    int mayor(int n, int what) {
        if (!days60(n)) {
            return NO;
        }
        int nobody = go(away(0), n).missed;
        if (what >= 10 && what < 20 && told(what - 10)) {
            return go(away(1 << what - 10), n).missed - nobody;
        }
        if (what < 0 || what > 1) {
            return NO;
        }
        int best = -2;
        int least = 0;
        for (int p : members(toldBits())) {
            int much = go(away(1 << p), n).missed - nobody;
            if (best == -2 || much < least) {
                best = p;
                least = much;
            }
        }
        return what == 0 || best == -2 ? best : least;
    }

    private int less(int p, int q, int i, int n) {
        int[] much = new int[4];
        for (int k = 0; k < 4; k++) {
            Course c = only(k % 2 == 0 ? 0 : 1 << p);
            if (k >= 2) {
                c.frontChore = i;
                c.frontPerson = q;
            }
            much[k] = go(c, n).missed;
        }
        return much[1] - much[0] - (much[3] - much[2]);
    }

    int standIn(int p, int q, int i, int n) {
        if (!days60(n) || !leaves(p, true) || !told(q) || p == q || i != 12 && !toldChore(i)) {
            return NO;
        }
        if (i < 12) {
            return less(p, q, i, n);
        }
        int best = NO;
        int most = 0;
        for (int k = 0; k < 12; k++) {
            if (amount[k] != null && (best == NO || less(p, q, k, n) > most)) {
                best = k;
                most = less(p, q, k, n);
            }
        }
        return best;
    }

    int hired(int units, int set, int n, int what) {
        List<Integer> who = members(set);
        if (units < 1 || units > 9 || set < 1 || set > 1023 || (set | toldBits()) != toldBits() || who.size() > 3
                || !days60(n) || what != 10 && !who.contains(what)) {
            return -1;
        }
        int[] best = null;
        int least = 0;
        for (int a = 0; a <= units; a++) {
            for (int b = 0; b <= units; b++) {
                for (int c = 0; c <= units; c++) {
                    int[] row = {a, b, c};
                    boolean outside = who.size() < 3 && c > 0 || who.size() < 2 && b > 0;
                    if (a + b + c != units || outside) {
                        continue;
                    }
                    Course course = course();
                    for (int k = 0; k < who.size(); k++) {
                        course.more[who.get(k)] = row[k];
                    }
                    int much = go(course, n).missed;
                    if (best == null || much < least) {
                        best = row;
                        least = much;
                    }
                }
            }
        }
        return what == 10 ? least : best[who.indexOf(what)];
    }

    int mustStay(int n, int what) {
        if (n < 1 || n > 20 || what < 0 || what > 1) {
            return -1;
        }
        int all = leaveBits();
        for (int set : setsOf(all)) {
            Course c = go(only(all & ~set), n);
            if (c.clear == c.missedByDay.size()) {
                return what == 0 ? Integer.bitCount(set) : set;
            }
        }
        return -2;
    }

    int halfDone(int p, int days) {
        if (!leaves(p, true) || days < 1 || days > 20) {
            return NO;
        }
        Leave own = leave[p];
        if (own.first - day < days) {
            return -2;
        }
        if (own.last - day >= 60) {
            return -3;
        }
        int[] much = new int[2];
        for (int k = 0; k < 2; k++) {
            Course c = only(1 << p);
            c.idle[p] = new boolean[10000];
            for (int d = own.first - days; d < own.first && k == 1; d++) {
                c.idle[p][d] = true;
            }
            go(c, own.last - day + 1);
            for (int d = own.first; d <= own.last; d++) {
                much[k] += c.missedByDay.get(d - day);
            }
        }
        return much[1] - much[0];
    }

    int byTurns(int set, int m, int what) {
        List<Integer> who = members(set);
        if (set < 0 || set > 1023 || (set | toldBits()) != toldBits() || who.size() < 2 || who.size() > 4 || m < 1
                || m > 10 || what != 10 && (what < 0 || what >= who.size())) {
            return -1;
        }
        List<Integer> best = null;
        int least = 0;
        for (List<Integer> order : orders(who)) {
            Course c = only(0);
            for (int k = 0; k < order.size(); k++) {
                c.leave[order.get(k)] = new Leave(day + k * m, day + k * m + m - 1);
            }
            int much = go(c, who.size() * m).missed;
            if (best == null || much < least) {
                best = order;
                least = much;
            }
        }
        return what == 10 ? least : best.get(what);
    }

    int firstDoer(int i, int n, int what) {
        if (!toldChore(i) || !days60(n) || what < 0 || what > 1) {
            return -1;
        }
        int least = go(course(), n).missed;
        int best = -2;
        for (int p : members(toldBits())) {
            Course c = course();
            c.frontChore = i;
            c.frontPerson = p;
            int much = go(c, n).missed;
            if (much < least) {
                least = much;
                best = p;
            }
        }
        return what == 0 ? best : least;
    }

    // ---- kept

    boolean seed(int s) {
        boolean fine = s >= 0 && s <= 65535;
        x = fine ? s : x;
        return fine;
    }

    int keep() {
        int[] keptUndone = undone.clone();
        int keptMissed = missed;
        int keptDay = day;
        int keptX = x;
        Leave[] keptLeave = leave.clone();
        kept = () -> {
            undone = keptUndone.clone();
            missed = keptMissed;
            day = keptDay;
            x = keptX;
            leave = keptLeave.clone();
        };
        return day;
    }

    boolean undo() {
        if (kept != null) {
            kept.run();
        }
        return kept != null;
    }

    int check(int n) {
        String text = take(n, 0, 12);
        if (text == null) {
            return -2;
        }
        for (int i = 0; i < n; i++) {
            if (text.charAt(i) != undone[i]) {
                return i;
            }
        }
        return -1;
    }

    int count(int what) {
        int chores = 0;
        int away = 0;
        for (int i = 0; i < 12; i++) {
            chores |= amount[i] != null ? 1 << i : 0;
        }
        for (int p = 0; p < 10; p++) {
            away |= leave[p] != null && leave[p].covers(day) ? 1 << p : 0;
        }
        return switch (what) {
            case 0 -> day;
            case 1 -> missed;
            case 2 -> toldBits();
            case 3 -> chores;
            case 4 -> away;
            case 5 -> clauses.size();
            case 6 -> tape.size();
            case 7 -> x;
            case 8 -> rain;
            case 9 -> leaveBits();
            default -> -1;
        };
    }
}
