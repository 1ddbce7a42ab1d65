/** What the tests share: answers that are due, and texts for the tape. */
final class Checks {
    private static int wrong = 0;
    private static int asked = 0;
    private static String about = "";

    private Checks() {
    }

    static void due(String call, long got, long want) {
        asked++;
        if (got != want) {
            wrong++;
            System.out.println(about + call + " answered " + got + ", due is " + want);
        }
    }

    static void due(String call, boolean got, boolean want) {
        due(call, got ? 1 : 0, want ? 1 : 0);
    }

    static void fail(String what) {
        asked++;
        wrong++;
        System.out.println(about + what);
    }

    /** What the next answers are about, told ahead of each that is not as due. */
    static void speakOf(String what) {
        about = what;
    }

    static int wrongSoFar() {
        return wrong;
    }

    static int askedSoFar() {
        return asked;
    }

    static void end() {
        System.out.println(asked + " answers, " + wrong + " of them not as due");
        if (wrong != 0) {
            System.exit(1);
        }
    }

    /** Feeds a text, filled up with zeros to a multiple of twenty bytes: how many bytes the text itself has. */
    static int feed(MissedTown x, String text) {
        for (int from = 0; from < text.length(); from += 20) {
            x.feed(word(text, from), word(text, from + 4), word(text, from + 8), word(text, from + 12),
                    word(text, from + 16));
        }
        return text.length();
    }

    static int word(String text, int from) {
        int word = 0;
        for (int k = from; k < from + 4; k++) {
            word = word << 8 | (k < text.length() ? text.charAt(k) & 255 : 0);
        }
        return word;
    }

    static int law(MissedTown x, String text) {
        return x.law(feed(x, text));
    }

    static int doers(MissedTown x, String text) {
        return x.doers(feed(x, text));
    }

    static int leaves(MissedTown x, String text) {
        return x.leaves(feed(x, text));
    }

    static int stopped(MissedTown x, int... units) {
        return x.stopped(feed(x, bytes(units)));
    }

    static int check(MissedTown x, int... units) {
        return x.check(feed(x, bytes(units)));
    }

    static String bytes(int... units) {
        StringBuilder text = new StringBuilder();
        for (int unit : units) {
            text.append((char) unit);
        }
        return text.toString();
    }
}
