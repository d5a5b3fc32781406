/** Promises 20 to 23: standsIn, compare, lacks, together, and that they change nothing. */
public final class WouldTest {
    private static final int NONE = ClubRolls.NONE;
    private static final int MIN = Integer.MIN_VALUE;
    private static final int MAX = Integer.MAX_VALUE;

    private WouldTest() {
    }

    public static void main(String[] args) {
        standsInByPlaces();
        standsInAlone();
        standsInOnCutWays();
        standsInOfThoseWhoAreGone();
        standsInWithPatience();
        standsInAmongOtherCalls();
        standsInBehindFullNotes();
        standsInRefuses();
        compareTellsSharedRolls();
        compareForgets();
        compareRefuses();
        lacksCountsSpeeches();
        lacksLooksAtTheRollNow();
        lacksRefuses();
        togetherFindsTheGreatest();
        togetherOfSeveral();
        nothingIsChanged();
        Checks.end("WouldTest");
    }

    private static void stands(ClubRolls x, String when, int m, int set, int stands, int all) {
        Checks.due(when + ": standsIn(" + m + ", " + set + ", 0)", x.standsIn(m, set, 0), stands);
        Checks.due(when + ": standsIn(" + m + ", " + set + ", 1)", x.standsIn(m, set, 1), all);
    }

    private static void standsInByPlaces() {
        ClubRolls x = Checks.club("m0m2m5m5m9t33");
        stands(x, "three ticks each way", 0, 3, 6, 9);
        stands(x, "the farthest one counts", 0, 7, 12, 18);
        stands(x, "from between", 1, 7, 8, 12);
        stands(x, "at one place", 2, 12, 2, 3);
        stands(x, "the longest way", 4, 31, 20, 30);
        Checks.due("it is not called", x.memberOf(0, 8), 0);
        x.call(0, 3);
        Checks.due("ticks(5)", x.ticks(5), 0);
        Checks.due("ticks(1): as it was told", x.ticks(1), 1);
    }

    private static void standsInAlone() {
        ClubRolls x = Checks.club("m0m2c003");
        stands(x, "alone", 1, 2, 0, 0);
        stands(x, "alone while hushed", 0, 1, 0, 0);
    }

    private static void standsInOnCutWays() {
        ClubRolls x = Checks.club("m0m0m0x01");
        stands(x, "cut", 0, 3, NONE, NONE);
        stands(x, "cut for one of two", 0, 7, NONE, NONE);
        stands(x, "not cut", 2, 7, 2, 3);
        stands(x, "not cut", 0, 5, 2, 3);
    }

    private static void standsInOfThoseWhoAreGone() {
        ClubRolls x = Checks.club("m0m0g0");
        stands(x, "the caller is gone", 0, 1, NONE, NONE);
        stands(x, "the caller is gone", 0, 3, NONE, NONE);
        stands(x, "one who is called is gone", 1, 3, NONE, NONE);
        stands(x, "the other one alone", 1, 2, 0, 0);
    }

    private static void standsInWithPatience() {
        ClubRolls x = Checks.club("m0m2p05");
        stands(x, "the patience is over ahead of that", 0, 3, NONE, NONE);
        x.set(6);
        stands(x, "just in time", 0, 3, 6, 9);
        x.set(1);
        stands(x, "alone", 0, 1, 0, 0);
        x.set(40);
        stands(x, "patient", 0, 3, 6, 9);
    }

    private static void standsInAmongOtherCalls() {
        ClubRolls x = Checks.club("m0m0m9c102c102");
        stands(x, "1 is promised to a later roll", 0, 3, NONE, NONE);
        stands(x, "1 calls", 1, 3, 2, 3);
        x = Checks.club("m0m3m9c103t02");
        stands(x, "an equal number comes and is nothing", 0, 3, NONE, NONE);
        x = Checks.club("m0m2m4c204c205t04");
        Checks.due("0 is called to the roll 2 of 2 in one more tick", x.memberOf(0, 6), 0);
        stands(x, "0 is hushed for it, and its roll is called no more", 0, 3, NONE, NONE);
        x.ticks(1);
        stands(x, "0 calls the roll 3", 0, 3, 6, 9);
        x = Checks.club("m0m2m2c001c005t05");
        stands(x, "2 has answered the roll 2 of 0, which stands then, and calls the roll 3", 2, 6, 2, 3);
        x = Checks.club("m0m5m9c001c003");
        stands(x, "1 is called to a greater roll behind its answer", 2, 6, 10, NONE);
        x.ticks(2);
        stands(x, "1 is called to a greater roll ahead of its answer", 2, 6, NONE, NONE);
    }

    private static void standsInBehindFullNotes() {
        ClubRolls x = Checks.club("m0m9m9m9m9m9");
        for (int i = 0; i < 30; i++) {
            x.call(0, 63);
        }
        stands(x, "150 notes are under way", 0, 3, NONE, NONE);
        stands(x, "150 notes are under way", 1, 6, NONE, NONE);
        stands(x, "150 notes are under way", 1, 2, 0, 0);
    }

    private static void standsInRefuses() {
        ClubRolls x = Checks.club("m0m0m0g2");
        int[] members = {3, -1, MIN, MAX};
        for (int m : members) {
            Checks.outside("standsIn(" + m + ", 1, 0)", () -> x.standsIn(m, 1, 0));
            Checks.outside("standsIn(" + m + ", 0, 2): the member is named first", () -> x.standsIn(m, 0, 2));
        }
        int[] whats = {-1, 2, MIN, MAX};
        for (int what : whats) {
            Checks.wrong("standsIn(0, 1, " + what + ")", () -> x.standsIn(0, 1, what));
            Checks.wrong("standsIn(2, 4, " + what + "), by one who is gone", () -> x.standsIn(2, 4, what));
        }
        int[] sets = {0, 2, 8, 9, 64 + 1, -1, MIN, MIN + 1, MAX};
        for (int set : sets) {
            Checks.wrong("standsIn(0, " + set + ", 0)", () -> x.standsIn(0, set, 0));
            Checks.wrong("standsIn(0, " + set + ", 1)", () -> x.standsIn(0, set, 1));
        }
        Checks.wrong("standsIn(2, 3, 0), by one who is gone, without itself", () -> x.standsIn(2, 3, 0));
    }

    private static void compares(ClubRolls x, String when, int a, int b, int shared, int unlike) {
        Checks.due(when + ": compare(" + a + ", " + b + ", 0)", x.compare(a, b, 0), shared);
        Checks.due(when + ": compare(" + b + ", " + a + ", 0)", x.compare(b, a, 0), shared);
        Checks.due(when + ": compare(" + a + ", " + b + ", 1)", x.compare(a, b, 1), unlike);
        Checks.due(when + ": compare(" + b + ", " + a + ", 1)", x.compare(b, a, 1), unlike);
    }

    private static void compareTellsSharedRolls() {
        ClubRolls x = Checks.club("m0m0m0c003t03");
        compares(x, "in the first roll", 0, 1, 0, 0);
        x.say(0);
        x.ticks(1);
        x.call(0, 7);
        x.ticks(3);
        compares(x, "both heard the speech", 0, 1, 1, 0);
        compares(x, "the third one was elsewhere", 0, 2, 0, 0);
        x.say(0);
        x.leave(1);
        x.back(1);
        x.ticks(1);
        compares(x, "the session of one is not over", 0, 1, 1, 0);
        x.call(0, 5);
        x.ticks(3);
        compares(x, "one left ahead of the speech", 0, 1, 2, 1);
        compares(x, "the others heard it", 0, 2, 1, 0);
        compares(x, "the one who left and the third one", 1, 2, 1, 1);
        compares(x, "one and the same", 0, 0, 3, 0);
        x = Checks.club("m0m0c001c001c102c102");
        compares(x, "the same numbers of unlike callers", 0, 1, 0, 0);
    }

    /** The rolls 1 to 6 are shared; of their sessions the latest 5 are remembered, and then one less of each alone. */
    private static void compareForgets() {
        ClubRolls x = Checks.club("m0m0");
        for (int i = 0; i < 7; i++) {
            x.call(0, 3);
            x.ticks(3);
        }
        compares(x, "five", 0, 1, 5, 0);
        x.call(1, 2);
        compares(x, "the oldest one is forgotten by one", 0, 1, 4, 0);
        for (int left = 3; left >= 0; left--) {
            x.call(1, 2);
            compares(x, "one less", 0, 1, left, 0);
        }
    }

    private static void compareRefuses() {
        ClubRolls x = Checks.club("m0m0");
        int[] members = {2, -1, MIN, MAX};
        for (int m : members) {
            Checks.outside("compare(" + m + ", 0, 0)", () -> x.compare(m, 0, 0));
            Checks.outside("compare(0, " + m + ", 1)", () -> x.compare(0, m, 1));
            Checks.outside("compare(0, " + m + ", 2): the member is named first", () -> x.compare(0, m, 2));
        }
        int[] whats = {-1, 2, MIN, MAX};
        for (int what : whats) {
            Checks.wrong("compare(0, 1, " + what + ")", () -> x.compare(0, 1, what));
            Checks.wrong("compare(0, 0, " + what + ")", () -> x.compare(0, 0, what));
        }
    }

    private static void lacks(ClubRolls x, String when, int... due) {
        for (int m = 0; m < due.length; m++) {
            Checks.due(when + ": lacks(" + m + ")", x.lacks(m), due[m]);
        }
    }

    private static void lacksCountsSpeeches() {
        ClubRolls x = Checks.club("m0m0m0s0");
        lacks(x, "each in a roll of its own", 0, 0, 0);
        x = Checks.club("m0m0m0c007t03");
        lacks(x, "no speech", 0, 0, 0);
        x.say(0);
        x.say(0);
        x.say(1);
        lacks(x, "three under way", 1, 2, 3);
        x.ticks(1);
        lacks(x, "all are heard", 0, 0, 0);
        x = Checks.club("m0m0m9c007t30x02s0s1t01");
        lacks(x, "two have heard what the third one lacks, counted once", 0, 0, 2);
        x.leave(0);
        x.leave(1);
        lacks(x, "those who are gone have heard it", 0, 0, 2);
        x.back(0);
        lacks(x, "the other one who is gone still has", 0, 0, 2);
        x.back(1);
        lacks(x, "none is in that roll now but the third one", 0, 0, 0);
    }

    private static void lacksLooksAtTheRollNow() {
        ClubRolls x = Checks.club("m0m3s1c003t08s0");
        lacks(x, "1 is not told of the roll yet", 0, 0);
        x.ticks(4);
        lacks(x, "1 is told", 0, 0);
        x.say(0);
        lacks(x, "a second speech", 0, 1);
        x.call(0, 3);
        lacks(x, "0 is hushed in the roll", 0, 1);
        x.leave(1);
        lacks(x, "1 is gone in the roll", 0, 1);
        x.call(0, 1);
        lacks(x, "0 is in another roll", 0, 0);
        x = Checks.club("m0m0m0c003t03c204s0s2");
        lacks(x, "the roll 1 of 2 is not the roll 1 of 0", 0, 1, 0);
    }

    private static void lacksRefuses() {
        ClubRolls x = Checks.club("m0m0");
        int[] members = {2, -1, MIN, MAX};
        for (int m : members) {
            Checks.outside("lacks(" + m + ")", () -> x.lacks(m));
        }
    }

    private static void together(String club, int due) {
        Checks.due("together() of " + club, Checks.club(club).together(), due);
    }

    private static void togetherFindsTheGreatest() {
        together("", 0);
        together("m0", 1);
        together("m0m0", 1);
        together("m0g0", 0);
        together("m0m0g0", 2);
        together("m0m0g0g1", 0);
        together("m0m0m0c106t03", 6);
        together("m0m0m0c106t02", 1);
        together("m0m0m0c007t03", 7);
        together("m0m0m0c007t03c007", 7);
        together("m0m0m0c007t03c007t01", 7);
        together("m0m0m0c007t03g0", 6);
        together("m0m0m0c007t03g0g1", 4);
        together("m0m0m0c007t03g0g1g2", 0);
        together("m0m0m0c007t03c102", 5);
        together("m0m0m0m0m0m0c063t03", 63);
    }

    private static void togetherOfSeveral() {
        together("m0m0m0m0c009c106t03", 9);
        together("m0m0m0m0c309c206t03", 9);
        together("m0m0m0m0m0c009c122t03", 22);
        together("m0m0m0m0c009c106t03g3", 6);
        together("m0m0m0c001c102c204", 1);
        together("m0m0m0c106t03g1g2", 1);
        together("m0m0m0g0c102c204", 2);
    }

    private static void nothingIsChanged() {
        ClubRolls x = Checks.club("m0m2m9p09c003t03");
        x.say(2);
        x.save(1);
        String before = Checks.all(x);
        x.standsIn(0, 7, 0);
        x.standsIn(1, 3, 1);
        x.standsIn(2, 4, 1);
        x.compare(0, 1, 1);
        x.lacks(0);
        x.together();
        Checks.same("the club behind what would be", Checks.all(x), before);
        Checks.due("nothing of it is remembered", x.undo(), 0);
        Checks.due("the slot is as it was", x.restore(1), 3);
        Checks.same("the club behind restore", Checks.all(x), before);
        Checks.due("the roll that is called goes on", x.ticks(3), 1);
    }
}
