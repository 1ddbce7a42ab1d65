import java.util.function.Supplier;

/** Two towns that were made alike, one of which gets a call more: they are alike then in all that can be asked. */
final class Twins {
    /** The tape holds this, so that a call that takes from it shows. */
    private static final String ON_THE_TAPE = "m3(i=1);k(u>0);n2(d>4)";

    private Twins() {
    }

    interface Call {
        long on(MissedTown x);
    }

    /** A town on its third day, with rain, leaves told and untold, something undone, something kept, and a tape. */
    static MissedTown town() {
        MissedTown x = PromisesTest.three("a1-2,b4-5,c2-9,h3-8");
        x.person(3, 0);
        x.chore(3, 1);
        x.rain(4);
        x.days(1);
        x.keep();
        x.days(2);
        Checks.feed(x, ON_THE_TAPE);
        return x;
    }

    static void refused(String name, Call call, long want) {
        refused(name, Twins::town, call, want);
    }

    static void refused(String name, Supplier<MissedTown> make, Call call, long want) {
        MissedTown x = make.get();
        Checks.due(name, call.on(x), want);
        alike(name, x, make.get());
    }

    /** A question is answered, not refused; and nothing is another then. */
    static void onlyAsks(String name, Call call) {
        MissedTown x = town();
        long answer = call.on(x);
        Checks.due(name + " is answered", answer != MissedTown.NONE && answer != -1000000000, true);
        alike(name, x, town());
    }

    /** A text with a fault empties the tape, and nothing else is another then. */
    static void fault(String text, Call read, long want) {
        MissedTown x = town();
        MissedTown y = town();
        x.check(0);
        y.check(0);
        Checks.feed(x, text);
        Checks.due(text, read.on(x), want);
        alike(text, x, y);
    }

    static void alike(String name, MissedTown x, MissedTown y) {
        String got = look(x);
        String want = look(y);
        Checks.due(name + " changed nothing", got.equals(want), true);
    }

    private static String look(MissedTown x) {
        StringBuilder seen = new StringBuilder();
        lookAtTold(x, seen);
        lookAhead(x, seen);
        seen.append(" tape ").append(x.law(ON_THE_TAPE.length())).append(' ').append(x.count(5));
        lookAhead(x, seen);
        seen.append(" kept ").append(x.undo());
        lookAhead(x, seen);
        tellAll(x);
        lookAtTold(x, seen);
        return seen.toString();
    }

    /** So that leaves and doers of those who were not told can be asked for. */
    private static void tellAll(MissedTown x) {
        for (int p = 0; p < 10; p++) {
            x.person(p, 1);
        }
        for (int i = 0; i < 12; i++) {
            x.chore(i, 1);
        }
    }

    private static void lookAtTold(MissedTown x, StringBuilder seen) {
        for (int p = 0; p < 10; p++) {
            for (int what = 0; what < 5; what++) {
                seen.append(x.personIs(p, what)).append(' ');
            }
        }
        for (int i = 0; i < 12; i++) {
            for (int what = 0; what < 3; what++) {
                seen.append(x.choreIs(i, what)).append(' ');
            }
            for (int place = 0; place < x.choreIs(i, 2); place++) {
                seen.append(x.choreIs(i, 10 + place)).append(' ');
            }
        }
    }

    private static void lookAhead(MissedTown x, StringBuilder seen) {
        for (int what = 0; what < 10; what++) {
            seen.append(x.count(what)).append(' ');
        }
        for (int n = 1; n <= 10; n++) {
            seen.append(x.tried(n, 0)).append(' ').append(x.tried(n, 2)).append(' ');
        }
        seen.append(x.tried(60, 0)).append(' ').append(x.tried(60, 1)).append(' ').append(x.tried(60, 3)).append(' ');
        seen.append(x.mustStay(9, 1)).append(' ').append(x.choreIs(0, 1)).append(' ').append(x.choreIs(1, 1)).append(' ');
    }
}
