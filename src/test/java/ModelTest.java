import java.util.Random;

/** Long runs of drawn calls, each answered by the class and by the model. */
public final class ModelTest {
    private final Random random;
    private final MissedTown town = new MissedTown();
    private final Model model = new Model();
    private final StringBuilder told = new StringBuilder();
    /** Whether the town is one in which people leave, and are missed; else anything goes. */
    private final boolean lively;

    private ModelTest(long seed) {
        random = new Random(seed);
        lively = seed % 4 != 0;
    }

    public static void main(String[] args) {
        int runs = args.length > 0 ? Integer.parseInt(args[0]) : 400;
        int calls = args.length > 1 ? Integer.parseInt(args[1]) : 120;
        for (int run = 0; run < runs && Checks.wrongSoFar() < 5; run++) {
            new ModelTest(run).go(run, run % 20 == 0 ? 400 : calls);
        }
        Checks.end();
    }

    private void go(int run, int calls) {
        int before = Checks.wrongSoFar();
        settle();
        if (run % 40 == 3) {
            goToLastDays();
        }
        for (int k = 0; k < calls && Checks.wrongSoFar() == before; k++) {
            call();
        }
        if (Checks.wrongSoFar() != before) {
            System.out.println("run " + run + ":\n" + told);
        }
    }

    private void goToLastDays() {
        for (int k = 0; k < 166; k++) {
            same("days(60)", town.days(60), model.days(60));
        }
    }

    private int in(int least, int most) {
        return least + random.nextInt(most - least + 1);
    }

    /** Mostly within bounds, now and then one step outside or far off. */
    private int near(int least, int most) {
        int how = random.nextInt(40);
        if (how == 0) {
            return least - 1;
        }
        if (how == 1) {
            return most + 1;
        }
        if (how == 2) {
            return random.nextInt();
        }
        return how < 6 ? least : how < 9 ? most : in(least, most);
    }

    private void same(String call, long got, long want) {
        told.append(call).append(" -> ").append(want).append('\n');
        Checks.due(call, got, want);
    }

    private void same(String call, boolean got, boolean want) {
        same(call, got ? 1 : 0, want ? 1 : 0);
    }

    private void settle() {
        if (lively) {
            settleLively();
            return;
        }
        int people = in(0, 6);
        for (int k = 0; k < people; k++) {
            person();
        }
        int chores = in(0, 7);
        for (int k = 0; k < chores; k++) {
            chore();
        }
        doers();
        if (random.nextInt(5) > 0) {
            law();
        }
        leaves();
    }

    private void settleLively() {
        int people = in(3, random.nextInt(4) == 0 ? 9 : 5);
        for (int p = 0; p <= people; p++) {
            int cap = in(1, 9);
            same("person(" + p + ", " + cap + ")", town.person(p, cap), model.person(p, cap));
        }
        int chores = in(2, random.nextInt(4) == 0 ? 11 : 6);
        for (int i = 0; i <= chores; i++) {
            int amount = in(0, 7);
            same("chore(" + i + ", " + amount + ")", town.chore(i, amount), model.chore(i, amount));
        }
        int tenths = in(0, 6);
        same("rain(" + tenths + ")", town.rain(tenths), model.rain(tenths));
        StringBuilder text = new StringBuilder();
        for (int i = 0; i <= chores; i++) {
            text.append(i > 0 ? ";" : "").append(i).append(':').append(letters(people, in(1, 4)));
        }
        int n = put(text.toString());
        same("doers(" + n + ")", town.doers(n), model.doers(n));
        livelyLaw();
        livelyLeaves();
    }

    private String letters(int last, int most) {
        StringBuilder text = new StringBuilder();
        for (int k = 0; k < most; k++) {
            String letter = "" + (char) ('a' + in(0, last));
            text.append(text.indexOf(letter) < 0 ? letter : "");
        }
        return text.toString();
    }

    private void livelyLaw() {
        String[] some = {"cx-1(r=1)", "nx+2(w=5)", "c0(p=2&d%3=1)", "k(i<3)", "m3*i(u>2)", "c[x+a]*2(a>1)", "k(1=1)",
            "nx-u/2(u>3|a=2)", "m9(w>4&!r=1)", "n0(r=1&i=2)", "c9/[p-1](1=1&!(p=3))", "m20/[a-1](a<3)", "k(!(9/u>2))",
            "cx+3(p=d%5)", "m[d%4]*2(i%2=0)", "nx*3(d%5=0)"};
        StringBuilder text = new StringBuilder();
        for (int k = in(0, 5); k > 0; k--) {
            text.append(some[random.nextInt(some.length)]).append(';');
        }
        text.append("m").append(in(1, 9)).append(random.nextBoolean() ? "+i(1=1)" : "(1=1)");
        int n = put(text.toString());
        same("law(" + n + ")", town.law(n), model.law(n));
    }

    private void livelyLeaves() {
        int told = model.count(2);
        StringBuilder text = new StringBuilder();
        for (int p = 0; p < 10; p++) {
            if ((told >> p & 1) == 1 ? random.nextInt(4) > 0 : random.nextInt(8) == 0) {
                int first = Math.min(990, model.day + (random.nextInt(4) == 0 ? in(0, 30) : in(0, 8)));
                int last = Math.min(999, first + in(0, 6));
                text.append(text.length() > 0 ? "," : "").append((char) ('a' + p)).append(first).append('-').append(last);
            }
        }
        int n = put(text.toString());
        same("leaves(" + n + ")", town.leaves(n), model.leaves(n));
    }

    private void person() {
        int p = near(0, 9);
        int cap = near(0, random.nextBoolean() ? 20 : 6);
        same("person(" + p + ", " + cap + ")", town.person(p, cap), model.person(p, cap));
    }

    private void chore() {
        int i = near(0, 11);
        int amount = near(0, random.nextBoolean() ? 20 : 8);
        same("chore(" + i + ", " + amount + ")", town.chore(i, amount), model.chore(i, amount));
    }

    // ---- texts

    private String spoil(String text) {
        if (random.nextInt(6) > 0 || text.isEmpty()) {
            return text;
        }
        String signs = "abcjkmnic0129:;,-()[]!&|<>=+*/%xdwrau" + (char) 0 + (char) 255;
        int at = random.nextInt(text.length());
        char sign = signs.charAt(random.nextInt(signs.length()));
        switch (random.nextInt(4)) {
            case 0:
                return text.substring(0, at) + text.substring(at + 1);
            case 1:
                return text.substring(0, at) + sign + text.substring(at);
            case 2:
                return text.substring(0, at) + sign + text.substring(at + 1);
            default:
                return text.substring(0, at);
        }
    }

    /** Feeds what can be fed and answers how many bytes the call is to be asked for. */
    private int put(String text) {
        told.append("put ").append(text).append('\n');
        for (int from = 0; from < text.length(); from += 20) {
            int a = Checks.word(text, from);
            int b = Checks.word(text, from + 4);
            int c = Checks.word(text, from + 8);
            int d = Checks.word(text, from + 12);
            int e = Checks.word(text, from + 16);
            same("feed", town.feed(a, b, c, d, e), model.feed(a, b, c, d, e));
        }
        return random.nextInt(60) == 0 ? near(0, 260) : text.length();
    }

    private void doers() {
        if (lively && random.nextInt(3) > 0) {
            return;
        }
        StringBuilder text = new StringBuilder();
        int lines = random.nextInt(20) == 0 ? in(10, 14) : in(1, 6);
        for (int k = 0; k < lines; k++) {
            text.append(k > 0 ? ";" : "").append(random.nextInt(40) == 0 ? in(10, 130) : in(0, 11)).append(':');
            String left = "abcdefghij";
            int people = in(1, random.nextInt(4) == 0 ? 10 : 4);
            for (int j = 0; j < people; j++) {
                char letter = left.charAt(random.nextInt(left.length()));
                text.append(letter);
                left = left.replace("" + letter, "");
            }
        }
        int n = put(spoil(text.toString()));
        same("doers(" + n + ")", town.doers(n), model.doers(n));
    }

    private void leaves() {
        if (lively && random.nextInt(8) > 0) {
            livelyLeaves();
            return;
        }
        StringBuilder text = new StringBuilder();
        String left = "abcdefghij";
        int lines = random.nextInt(20) == 0 ? 10 : in(1, 5);
        for (int k = 0; k < lines; k++) {
            char letter = left.charAt(random.nextInt(left.length()));
            left = left.replace("" + letter, "");
            int first = Math.min(999, model.day + in(0, 25));
            first = random.nextInt(12) == 0 ? in(0, 999) : first;
            int last = Math.min(999, first + (random.nextInt(10) == 0 ? in(-3, 90) : in(0, 9)));
            text.append(k > 0 ? "," : "").append(letter).append(first).append('-').append(Math.max(0, last));
        }
        int n = put(spoil(text.toString()));
        same("leaves(" + n + ")", town.leaves(n), model.leaves(n));
    }

    private String sum(int deep) {
        StringBuilder text = new StringBuilder(factor(deep));
        for (int k = random.nextInt(3); k > 0; k--) {
            text.append("+-*/%".charAt(random.nextInt(5))).append(factor(deep));
        }
        return text.toString();
    }

    private String factor(int deep) {
        int how = random.nextInt(20);
        if (how < 3 && deep < 4 || how == 19) {
            return "[" + sum(deep + 1) + "]";
        }
        if (how < 11) {
            return "" + "ipxdwrau".charAt(random.nextInt(8));
        }
        return "" + (how < 18 ? in(0, 12) : in(0, 99999));
    }

    private String condition(int deep) {
        StringBuilder text = new StringBuilder(piece(deep));
        for (int k = random.nextInt(3); k > 0; k--) {
            text.append("&|".charAt(random.nextInt(2))).append(piece(deep));
        }
        return text.toString();
    }

    private String piece(int deep) {
        int how = random.nextInt(14);
        if (how < 2 && deep < 5 || how == 13 && deep < 8) {
            return "(" + condition(deep + 1) + ")";
        }
        if (how < 4 && deep < 8) {
            return "!" + piece(deep + 1);
        }
        return how < 7 ? "1=1" : sum(deep) + "<>=".charAt(random.nextInt(3)) + sum(deep);
    }

    private void law() {
        if (lively && random.nextInt(8) > 0) {
            livelyLaw();
            return;
        }
        StringBuilder text = new StringBuilder();
        int clauses = random.nextInt(10) == 0 ? 17 : in(1, 7);
        for (int k = 0; k < clauses; k++) {
            char kind = "mmnck".charAt(random.nextInt(5));
            String simple = "(" + (random.nextBoolean() ? "1=1" : "r=1|a>0") + ")";
            text.append(k > 0 ? ";" : "").append(kind).append(kind == 'k' ? "" : sum(0));
            text.append(clauses == 17 ? "(1=1)" : random.nextInt(3) == 0 ? simple : "(" + condition(1) + ")");
        }
        String whole = text.length() > 240 ? text.substring(0, 240) : text.toString();
        int n = put(spoil(whole));
        same("law(" + n + ")", town.law(n), model.law(n));
    }

    private String units() {
        StringBuilder text = new StringBuilder();
        int n = in(1, 12);
        boolean right = random.nextBoolean();
        for (int i = 0; i < n; i++) {
            int day = model.tried(1, 10 + i);
            int unit = right ? model.undone[i] : Math.max(0, day);
            text.append((char) (random.nextInt(30) == 0 ? in(0, 255) : unit));
        }
        return text.toString();
    }

    // ---- calls

    private void call() {
        switch (random.nextInt(12)) {
            case 0:
                telling();
                break;
            case 1:
                texts();
                break;
            case 2:
            case 3:
                days();
                break;
            case 4:
                knowing();
                break;
            case 5:
            case 6:
            case 7:
                leaving();
                break;
            default:
                asking();
        }
    }

    private void telling() {
        switch (random.nextInt(4)) {
            case 0:
                person();
                break;
            case 1:
                chore();
                break;
            case 2:
                int tenths = near(0, 10);
                same("rain(" + tenths + ")", town.rain(tenths), model.rain(tenths));
                break;
            default:
                int x = near(0, 65535);
                same("seed(" + x + ")", town.seed(x), model.seed(x));
        }
    }

    private void texts() {
        switch (random.nextInt(7)) {
            case 0:
                doers();
                break;
            case 1:
            case 2:
                leaves();
                break;
            case 3:
            case 4:
                law();
                break;
            case 5:
                int a = random.nextInt();
                same("feed(" + a + ", 1, 2, 3, 4)", town.feed(a, 1, 2, 3, 4), model.feed(a, 1, 2, 3, 4));
                break;
            default:
                if (lively && random.nextBoolean()) {
                    livelyLeaves();
                    return;
                }
                same("home()", town.home(), model.home());
        }
    }

    private void days() {
        int n = near(1, random.nextBoolean() && !lively ? 60 : 5);
        int what = random.nextInt(3) == 0 ? near(0, 4) : random.nextBoolean() ? 10 + near(0, 11) : 30 + near(0, 9);
        switch (random.nextInt(6)) {
            case 0:
                same("keep()", town.keep(), model.keep());
                break;
            case 1:
                same("undo()", town.undo(), model.undo());
                break;
            case 2:
            case 3:
                same("days(" + n + ")", town.days(n), model.days(n));
                break;
            default:
                same("tried(" + n + ", " + what + ")", town.tried(n, what), model.tried(n, what));
        }
    }

    private void knowing() {
        int p = near(0, 9);
        int i = near(0, 11);
        int what = near(0, 5);
        switch (random.nextInt(4)) {
            case 0:
                same("personIs(" + p + ", " + what + ")", town.personIs(p, what), model.personIs(p, what));
                break;
            case 1:
                what = random.nextBoolean() ? near(0, 2) : 10 + near(0, 9);
                same("choreIs(" + i + ", " + what + ")", town.choreIs(i, what), model.choreIs(i, what));
                break;
            case 2:
                what = near(0, 9);
                same("count(" + what + ")", town.count(what), model.count(what));
                break;
            default:
                int n = put(units());
                same("check(" + n + ")", town.check(n), model.check(n));
        }
    }

    /** Someone of a set, if it has any, as often as not one that the call can be asked of. */
    private int one(int set) {
        int p = in(0, 9);
        for (int k = 0; k < 10 && random.nextInt(15) > 0; k++) {
            if ((set >> (p + k) % 10 & 1) == 1) {
                return (p + k) % 10;
            }
        }
        return near(0, 9);
    }

    private int some(int set, int most) {
        int bits = 0;
        for (int k = in(1, most); k > 0; k--) {
            bits |= 1 << Math.max(0, Math.min(10, one(set)));
        }
        return random.nextInt(30) == 0 ? near(0, 1023) : bits;
    }

    private void leaving() {
        int able = model.count(2);
        int leaving = able & model.count(9);
        int p = one(leaving);
        int q = one(leaving);
        int n = near(1, random.nextInt(4) == 0 ? 60 : 15);
        int set = some(leaving, 5);
        String told3 = "(" + p + ", " + q + ", " + n + ")";
        switch (random.nextInt(8)) {
            case 0:
                set = random.nextBoolean() ? 0 : set;
                same("cost(" + set + ", " + n + ")", town.cost(set, n), model.cost(set, n));
                break;
            case 1:
                same("missed(" + p + ", " + n + ")", town.missed(p, n), model.missed(p, n));
                break;
            case 2:
                same("together" + told3, town.together(p, q, n), model.together(p, q, n));
                break;
            case 3:
                int member = one(set);
                int what = near(0, 2);
                same("share(" + set + ", " + member + ", " + n + ", " + what + ")",
                        town.share(set, member, n, what), model.share(set, member, n, what));
                break;
            case 4:
                int other = random.nextBoolean() ? 10 : one(able);
                same("spoilt(" + p + ", " + other + ", " + n + ")", town.spoilt(p, other, n),
                        model.spoilt(p, other, n));
                break;
            case 5:
                int i = random.nextBoolean() ? 12 : near(0, 11);
                int stand = one(able);
                same("standIn(" + p + ", " + stand + ", " + i + ", " + n + ")", town.standIn(p, stand, i, n),
                        model.standIn(p, stand, i, n));
                break;
            case 6:
                int ahead = near(1, random.nextBoolean() ? 20 : 4);
                same("halfDone(" + p + ", " + ahead + ")", town.halfDone(p, ahead), model.halfDone(p, ahead));
                break;
            default:
                int few = near(1, 20);
                int which = near(0, 1);
                same("mustStay(" + few + ", " + which + ")", town.mustStay(few, which), model.mustStay(few, which));
        }
    }

    private void asking() {
        int able = model.count(2);
        int p = one(able);
        int q = one(able);
        int n = near(1, random.nextInt(4) == 0 ? 60 : 15);
        int m = near(1, 10);
        int what = near(0, 2);
        int set = some(able, 4);
        switch (random.nextInt(8)) {
            case 0:
                int length = near(1, 20);
                int from = near(1, 30);
                what = near(0, 1);
                same("when(" + p + ", " + length + ", " + from + ", " + what + ")",
                        town.when(p, length, from, what), model.when(p, length, from, what));
                break;
            case 1:
                int stretches = near(2, 5);
                same("against(" + p + ", " + q + ", " + stretches + ", " + m + ", " + what + ")",
                        town.against(p, q, stretches, m, what), model.against(p, q, stretches, m, what));
                break;
            case 2:
                int bytes = put(units());
                same("stopped(" + bytes + ")", town.stopped(bytes), model.stopped(bytes));
                break;
            case 3:
                int much = random.nextInt(4) == 0 ? near(0, 999999) : in(0, random.nextBoolean() ? 1200 : 90);
                int few = near(1, 20);
                what = near(0, 1);
                same("holds(" + few + ", " + much + ", " + what + ")", town.holds(few, much, what),
                        model.holds(few, much, what));
                break;
            case 4:
                what = random.nextBoolean() ? near(0, 1) : 10 + near(0, 9);
                same("mayor(" + n + ", " + what + ")", town.mayor(n, what), model.mayor(n, what));
                break;
            case 5:
                int units = near(1, 9);
                what = random.nextBoolean() ? 10 : one(set);
                same("hired(" + units + ", " + set + ", " + n + ", " + what + ")",
                        town.hired(units, set, n, what), model.hired(units, set, n, what));
                break;
            case 6:
                what = random.nextBoolean() ? 10 : near(0, 3);
                same("byTurns(" + set + ", " + m + ", " + what + ")", town.byTurns(set, m, what),
                        model.byTurns(set, m, what));
                break;
            default:
                int i = near(0, 11);
                what = near(0, 1);
                same("firstDoer(" + i + ", " + n + ", " + what + ")", town.firstDoer(i, n, what),
                        model.firstDoer(i, n, what));
        }
    }
}
