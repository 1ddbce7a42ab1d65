/** The Terms' sentences on DOERS and LEAVES. */
final class SentencesOfTexts {
    private static final String DIGITS = "0123456789";
    private static final String PEOPLE = "abcdefghij";
    /** Twelve LINES, 120 bytes. */
    private static final String LONGEST_DOERS = "0:abcdefg;1:abcdefg;2:abcdefg;3:abcdefg;4:abcdefg;5:abcdefg;6:abcdefg;7:abcdefg;8:abcdefg;"
            + "9:abcdefg;10:abcdef;11:abcdefg";
    private static final String TWELVE = "0:a;1:b;2:c;3:d;4:e;5:f;6:g;7:h;8:i;9:j;10:b;11:c";
    /** Ten LINES, 89 bytes: more can't be right. */
    private static final String LONGEST_LEAVES =
            "a100-200,b101-201,c102-202,d103-203,e104-204,f105-205,g106-206,h107-207,i108-208,j109-999";

    private SentencesOfTexts() {
    }

    interface Reading {
        int of(MissedTown x, String text);
    }

    static void all() {
        Sentence.of("Terms", "DOERS: a TEXT of at most 120 bytes, no blanks:", SentencesOfTexts::doersBytes);
        Sentence.of("Terms", "LINES (12 at most) with a ; (59) between two:", SentencesOfTexts::doersLines);
        Sentence.of("Terms", "a CHORE (0 to 11, one or two digits), a :", SentencesOfTexts::doersChores);
        Sentence.of("Terms", "and letters a to j (PEOPLE 0 to 9; up to 10, none twice; one at least).", SentencesOfTexts::doersPeople);
        Sentence.of("Terms", "FAULTS, the first from the left: 1 what can't stand there (the end, too); 3", SentencesOfTexts::doersFaults);
        Sentence.of("Terms", "FAULTS, the first from the left: 1 what can't stand there (the end, too); 3", SentencesOfTexts::doersFirst);
        Sentence.of("Terms", "3 a CHORE above 11, at its first digit (asked when its digits end, behind two at the latest);",
                SentencesOfTexts::doersAbove);
        Sentence.of("Terms", "4 a 13th LINE, at its first digit;", SentencesOfTexts::doersThirteenth);
        Sentence.of("Terms", "6 a PERSON twice in a LINE, at it.", SentencesOfTexts::doersTwice);
        Sentence.of("Terms", "LEAVES: a TEXT of at most 120 bytes:", SentencesOfTexts::leavesBytes);
        Sentence.of("Terms", "LINES (10 at most) with a , between two:", SentencesOfTexts::leavesLines);
        Sentence.of("Terms", "a PERSON (a to j), a number, - and a number (one to three digits each):", SentencesOfTexts::leavesNumbers);
        Sentence.of("Terms", "away from DAY to DAY (both counted).", SentencesOfTexts::leavesDays);
        Sentence.of("Terms", "FAULTS: 1 what can't stand there (the end, too; a fourth digit);", SentencesOfTexts::leavesFaults);
        Sentence.of("Terms", "FAULTS: 1 what can't stand there (the end, too; a fourth digit);", SentencesOfTexts::leavesFirst);
        Sentence.of("Terms", "4 an 11th LINE, at its letter;", SentencesOfTexts::leavesEleventh);
        Sentence.of("Terms", "6 a second LEAVE of a PERSON, at its letter;", SentencesOfTexts::leavesSecond);
        Sentence.of("Terms", "7 a last DAY below the first one, at its first digit (asked behind its digits).", SentencesOfTexts::leavesBelow);
        Sentence.of("Terms", "A LEAVE of each PERSON, told or not, or none (at first).", SentencesOfTexts::leavesAtFirst);
    }

    private static void due(String call, long got, long want) {
        Checks.due(call, got, want);
    }

    /** Each text in turn, read by a town of its own. */
    static void texts(Reading reading, String[] texts, int[] wants) {
        due("as many answers as texts", texts.length, wants.length);
        for (int k = 0; k < texts.length && k < wants.length; k++) {
            due(texts[k], reading.of(new MissedTown(), texts[k]), wants[k]);
        }
    }

    /** At each place all bytes are fault 1 there, but those that may stand there. */
    static void everyByte(Reading reading, String text, String[] mayStand) {
        due("as many places as bytes", mayStand.length, text.length());
        for (int place = 0; place < text.length() && place < mayStand.length; place++) {
            due("what stands there may", mayStand[place].indexOf(text.charAt(place)) >= 0 ? 1 : 0, 1);
            for (int sign = 0; sign < 256; sign++) {
                if (mayStand[place].indexOf((char) sign) < 0) {
                    String wrong = text.substring(0, place) + (char) sign + text.substring(place + 1);
                    due(text + " with byte " + sign + " at " + place, reading.of(new MissedTown(), wrong), -1000 - place);
                }
            }
        }
    }

    /** What is answered for the first bytes of a text, one more each time. */
    static void everyEnd(Reading reading, String text, int[] wants) {
        due("as many answers as bytes", wants.length, text.length());
        for (int n = 1; n <= text.length() && n <= wants.length; n++) {
            due(text.substring(0, n), reading.of(new MissedTown(), text.substring(0, n)), wants[n - 1]);
        }
    }

    private static void doersBytes() {
        MissedTown x = new MissedTown();
        due("120 bytes", LONGEST_DOERS.length(), 120);
        due("are read", Checks.doers(x, LONGEST_DOERS), 12);
        due("to the last", x.chore(11, 1) ? x.choreIs(11, 2) : 0, 7);
        Checks.feed(x, LONGEST_DOERS + "h");
        due("121 are not", x.doers(121), -1);
        due("and stay", x.count(6), 140);
        due("120 of them are", x.doers(120), 12);
        texts(Checks::doers, new String[] {" 0:a", "0 :a", "0: a", "0:a b", "0:a ", "0:a; 1:b", "0:a\n", "0:a\t;1:b"},
                new int[] {-1000, -1001, -1002, -1003, -1003, -1004, -1003, -1003});
    }

    private static void doersLines() {
        for (int lines = 1; lines <= 12; lines++) {
            String text = String.join(";", java.util.Arrays.copyOf(TWELVE.split(";"), lines));
            due(text, Checks.doers(new MissedTown(), text), lines);
        }
        due("a 13th", Checks.doers(new MissedTown(), TWELVE + ";0:a"), -4050);
        texts(Checks::doers, new String[] {"0:a;1:b", "0:a:1:b", "0:a,1:b", "0:a1:b", "0:a;;1:b", ";0:a", "0:a;1:b;", "0:a<1:b"},
                new int[] {2, -1003, -1003, -1003, -1004, -1000, -1008, -1003});
        MissedTown x = new MissedTown();
        due("no line", x.doers(0), -1);
    }

    private static void doersChores() {
        for (int chore = 0; chore < 12; chore++) {
            for (String digits : new String[] {"" + chore, chore < 10 ? "0" + chore : "" + chore}) {
                MissedTown x = new MissedTown();
                due(digits, Checks.doers(x, digits + ":j"), 1);
                for (int i = 0; i < 12; i++) {
                    x.chore(i, 1);
                    due(digits + " of " + i, x.choreIs(i, 2), i == chore ? 1 : 0);
                }
            }
        }
        texts(Checks::doers, new String[] {"12:a", "011:a", "000:a", ":a", "a:a", "0a", "0;a", "0::a"},
                new int[] {-3000, -1002, -1002, -1000, -1000, -1001, -1001, -1002});
    }

    private static void doersPeople() {
        for (int p = 0; p < 10; p++) {
            MissedTown x = new MissedTown();
            x.chore(4, 1);
            due("one", Checks.doers(x, "4:" + (char) ('a' + p)), 1);
            due("is " + p, x.choreIs(4, 10), p);
        }
        MissedTown x = new MissedTown();
        due("all ten", Checks.doers(x, "4:" + PEOPLE), 1);
        due("ten", x.chore(4, 1) ? x.choreIs(4, 2) : 0, 10);
        texts(Checks::doers, new String[] {"4:", "4:;5:a", "4:`", "4:k", "4:A", "4:J", "4:a0", "4:" + PEOPLE + "a", "4:" + PEOPLE + "k"},
                new int[] {-1002, -1002, -1002, -1002, -1002, -1002, -1003, -6012, -1012});
    }

    private static void doersFaults() {
        everyEnd(Checks::doers, "0:ab;11:c;2:d", new int[] {-1001, -1002, 1, 1, -1005, -1006, -1007, -1008, 2, -1010, -1011, -1012, 3});
        everyByte(Checks::doers, "0:ab;1:c;11:d", new String[] {DIGITS, DIGITS + ":", PEOPLE, PEOPLE + ";", ";" + PEOPLE, DIGITS, DIGITS + ":",
            PEOPLE, ";" + PEOPLE, DIGITS, DIGITS + ":", ":", PEOPLE});
    }

    private static void doersFirst() {
        texts(Checks::doers, new String[] {"0:aa;12:a", "12:aa", "12:k", "0:k;12:a", "0:ak", "0:aak", "0:aka", "1:a;12:aa;k", "x;12:a",
            "0:ab;3:cc;14:", TWELVE.replace("0:a", "0:aa") + ";0:a", TWELVE.replace("11:", "12:") + ";0:a", TWELVE + "c;0:a", TWELVE + ";12:aa"},
                new int[] {-6003, -3000, -3000, -1002, -1003, -6003, -1003, -3004, -1000,
                    -6008, -6003, -3045, -6049, -4050});
    }

    private static void doersAbove() {
        for (int chore = 12; chore < 100; chore++) {
            due(chore + "", Checks.doers(new MissedTown(), "5:a;" + chore + ":b"), -3004);
        }
        texts(Checks::doers, new String[] {"12", "12x", "99:", "123", "120:a", "1", "11", "110:a", "011:a", "19"},
                new int[] {-3000, -3000, -3000, -3000, -3000, -1001, -1002, -1002, -1002, -3000});
    }

    private static void doersThirteenth() {
        texts(Checks::doers, new String[] {TWELVE, TWELVE + ";0:a", TWELVE + ";0", TWELVE + ";9", TWELVE + ";12:a", TWELVE + ";a", TWELVE + ";",
            TWELVE + ";:", TWELVE + ":", LONGEST_DOERS.substring(0, 118) + ";0"},
                new int[] {12, -4050, -4050, -4050, -4050, -1050, -1050, -1050, -1049, -4119});
        MissedTown x = new MissedTown();
        due("twelve of one chore", Checks.doers(x, "7:a;7:b;7:c;7:d;7:e;7:f;7:g;7:h;7:i;7:j;7:a;7:b"), 12);
        due("the last of them", x.chore(7, 1) ? x.choreIs(7, 10) : 0, 1);
    }

    private static void doersTwice() {
        for (int p = 0; p < 10; p++) {
            due("letter " + p, Checks.doers(new MissedTown(), "0:" + PEOPLE + PEOPLE.charAt(p)), -6012);
            char letter = PEOPLE.charAt(p);
            due("next to it", Checks.doers(new MissedTown(), "11:" + letter + letter), -6004);
        }
        texts(Checks::doers, new String[] {"0:aba", "0:abb", "0:ab;1:ab", "0:ab;0:ba", "0:ab;1:aba", "0:abcab"},
                new int[] {-6004, -6004, 2, 2, -6009, -6005});
    }

    private static void leavesBytes() {
        MissedTown x = new MissedTown();
        due("the longest", LONGEST_LEAVES.length(), 89);
        due("is read", Checks.leaves(x, LONGEST_LEAVES), 10);
        due("to the last", x.person(9, 1) ? x.personIs(9, 2) : 0, 999);
        String more = LONGEST_LEAVES + "x".repeat(32);
        Checks.feed(x, more);
        due("121 are not read", x.leaves(121), -1);
        due("and stay", x.count(6), 140);
        due("120 are", x.leaves(120), -1089);
        due("none is there then", x.count(6), 0);
    }

    private static void leavesLines() {
        String[] ten = LONGEST_LEAVES.split(",");
        for (int lines = 1; lines <= 10; lines++) {
            MissedTown x = new MissedTown();
            due(lines + " lines", Checks.leaves(x, String.join(",", java.util.Arrays.copyOf(ten, lines))), lines);
            due("leaves", x.count(9), (1 << lines) - 1);
        }
        due("an 11th", Checks.leaves(new MissedTown(), LONGEST_LEAVES + ",a1-2"), -4090);
        texts(Checks::leaves, new String[] {"a1-2,b3-4", "a1-2;b3-4", "a1-2b3-4", "a1-2,,b3-4", ",a1-2", "a1-2,", "a1-2.b3-4", "a1-2, b3-4"},
                new int[] {2, -1004, -1004, -1005, -1000, -1005, -1004, -1005});
        due("no line", new MissedTown().leaves(0), -1);
    }

    private static void leavesNumbers() {
        String[] firsts = {"0", "00", "000", "9", "09", "009", "10", "99", "099", "100", "998", "999"};
        int[] values = {0, 0, 0, 9, 9, 9, 10, 99, 99, 100, 998, 999};
        for (int p = 0; p < 10; p++) {
            for (int k = 0; k < firsts.length; k++) {
                MissedTown x = new MissedTown();
                x.person(p, 0);
                due(firsts[k], Checks.leaves(x, PEOPLE.charAt(p) + firsts[k] + "-999"), 1);
                due("first day", x.personIs(p, 1), values[k]);
                due("last day", x.personIs(p, 2), 999);
                due("both alike", Checks.leaves(x, PEOPLE.charAt(p) + firsts[k] + "-" + firsts[k]), 1);
                due("last day", x.personIs(p, 2), values[k]);
            }
        }
        texts(Checks::leaves, new String[] {"`1-2", "k1-2", "A1-2", "a-2", "a1-", "a1+2", "a1--2", "a0001-2", "a1-0002", "ab1-2", "1-2"},
                new int[] {-1000, -1000, -1000, -1001, -1003, -1002, -1003, -1004, -1006, -1001, -1000});
    }

    private static void leavesDays() {
        MissedTown x = SentencesOfDays.one(4, 4);
        Checks.leaves(x, "a2-4,b3-3");
        int[] bits = {0, 0, 1, 3, 1, 0};
        for (int day = 0; day < bits.length; day++) {
            due("away on day " + day, x.count(4), bits[day]);
            due("it is away", x.personIs(0, 3), bits[day] & 1);
            due("missed on it", x.days(1), (bits[day] & 1) * 4);
        }
        Checks.leaves(x, "a0-999");
        SentencesOfDays.goTo(x, 998);
        due("on day 998", x.count(4), 1);
        due("998 and 999", x.tried(60, 0), 8);
        SentencesOfDays.goTo(x, 999);
        due("on day 999", x.count(4), 1);
        SentencesOfDays.goTo(x, 1000);
        due("no more on day 1000", x.count(4), 0);
        due("though it has a leave", x.count(9), 1);
    }

    private static void leavesFaults() {
        everyEnd(Checks::leaves, "a1-234,j05-006", new int[] {-1001, -1002, -1003, 1, 1, 1, -1007, -1008, -1009, -1010, -1011, -7011, -7011, 2});
        everyByte(Checks::leaves, "a1-234,b5-6", new String[] {PEOPLE, DIGITS, DIGITS + "-", DIGITS, DIGITS + ",", DIGITS + ",", ",", PEOPLE, DIGITS,
            DIGITS + "-", DIGITS});
        texts(Checks::leaves, new String[] {"a1234-5", "a123-4567", "a000-0000", "a1-2,b0123-4", "a1-2,b3-0004"},
                new int[] {-1004, -1008, -1008, -1009, -1011});
    }

    private static void leavesFirst() {
        texts(Checks::leaves, new String[] {"a5-4,a", "a5-4x", "a5-x", "a4-5,a5-4", "a4-5,ax", "a4-5,k", "x,a5-4", "a5-4,k", "a4-5x,a",
            LONGEST_LEAVES.replace("a100", "a300") + ",a", LONGEST_LEAVES.replace("j109", "a109") + ",b"},
                new int[] {-7003, -7003, -1003, -6005, -6005, -1005, -1000, -7003, -1004, -7005, -6081});
    }

    private static void leavesEleventh() {
        for (int p = 0; p < 10; p++) {
            due("letter " + p, Checks.leaves(new MissedTown(), LONGEST_LEAVES + "," + PEOPLE.charAt(p)), -4090);
        }
        texts(Checks::leaves, new String[] {LONGEST_LEAVES, LONGEST_LEAVES + ",", LONGEST_LEAVES + ",k1-2", LONGEST_LEAVES + ",1", LONGEST_LEAVES + ";a1-2"},
                new int[] {10, -1090, -1090, -1090, -1089});
    }

    private static void leavesSecond() {
        for (int p = 0; p < 10; p++) {
            char letter = PEOPLE.charAt(p);
            due("letter " + p, Checks.leaves(new MissedTown(), letter + "1-2," + letter + "4-5"), -6005);
            due("at the end", Checks.leaves(new MissedTown(), letter + "10-20," + letter), -6007);
        }
        texts(Checks::leaves, new String[] {"a1-2,b3-4,a5-6", "a1-2,b3-4,b5-6", "a1-2,b1-2"}, new int[] {-6010, -6010, 2});
    }

    private static void leavesBelow() {
        texts(Checks::leaves, new String[] {"a5-5", "a5-4", "a5-6", "a10-9", "a10-09", "a10-10", "a100-99", "a999-998", "a999-999", "a1-0", "a1-2,b7-6",
            "a5-4,b", "a5-49", "a50-49,c", "a500-50", "a500-500", "a500-499,"},
                new int[] {1, -7003, 1, -7004, -7004, 1, -7005, -7005, 1, -7003, -7008,
                    -7003, 1, -7004, -7005, 1, -7005});
        // A fourth digit can't stand there, so it is not asked then.
        texts(Checks::leaves, new String[] {"a500-4999", "a500-5000", "a1-0000", "a1-000"}, new int[] {-1008, -1008, -1006, -7003});
    }

    private static void leavesAtFirst() {
        MissedTown x = new MissedTown();
        due("none has one", x.count(9), 0);
        for (int p = 0; p < 10; p++) {
            x.person(p, 1);
            due("no first day", x.personIs(p, 1), -2);
            due("no last day", x.personIs(p, 2), -2);
            due("it is here", x.personIs(p, 3), 0);
        }
        MissedTown y = new MissedTown();
        due("not told", Checks.leaves(y, LONGEST_LEAVES), 10);
        due("all have one", y.count(9), 1023);
        due("told later", y.person(9, 1) ? y.personIs(9, 1) : 0, 109);
    }
}
