/** Promises 6 to 10: about, memberOf, session, note, isCut, at each step of one roll that is told by hand. */
public final class TellsTest {
    private TellsTest() {
    }

    public static void main(String[] args) {
        aRollStepByStep();
        aboutCounts();
        aboutRefuses();
        memberOfTellsKeptSpeeches();
        memberOfRefuses();
        sessionsAreTheLatestFive();
        sessionRefuses();
        notesComeInOrder();
        noteRefuses();
        isCutTellsBothWays();
        isCutRefuses();
        Checks.end("TellsTest");
    }

    /** What memberOf(m, 0) to memberOf(m, 11) answer. */
    private static void member(ClubRolls x, String when, int m, int... due) {
        for (int what = 0; what <= 11; what++) {
            Checks.due(when + ": memberOf(" + m + ", " + what + ")", x.memberOf(m, what), due[what]);
        }
    }

    private static void about(ClubRolls x, String when, int... due) {
        for (int what = 0; what <= 9; what++) {
            Checks.due(when + ": about(" + what + ")", x.about(what), due[what]);
        }
    }

    private static void note(ClubRolls x, String when, int k, int... due) {
        for (int what = 0; what <= 5; what++) {
            Checks.due(when + ": note(" + k + ", " + what + ")", x.note(k, what), due[what]);
        }
    }

    private static void session(ClubRolls x, String when, int m, int k, int... due) {
        for (int what = 0; what <= 2; what++) {
            Checks.due(when + ": session(" + m + ", " + k + ", " + what + ")", x.session(m, k, what), due[what]);
        }
    }

    /** Members at 0, 2 and 5; the ways between them take 3, 6 and 4 ticks. */
    private static void aRollStepByStep() {
        ClubRolls x = Checks.club("m0m2m5s0s1s1p40");
        String when = "before";
        member(x, when, 0, 0, 0, 0, 0, 1, 1, 0, 1, 0, 0, 0, 0);
        member(x, when, 1, 2, 0, 0, 1, 2, 48, 0, 2, 0, 0, 0, 0);
        member(x, when, 2, 5, 0, 0, 2, 4, 0, 0, 0, 0, 0, 0, 0);
        about(x, when, 3, 0, 0, 0, 3, 0, 0, 7, 0, 40);
        when = "called";
        Checks.due("call(0, 7)", x.call(0, 7), 1);
        member(x, when, 0, 0, 1, 0, 0, 1, 1, 1, 1, 7, 1, 0, 0);
        about(x, when, 3, 0, 2, 0, 3, 0, 0, 6, 0, 40);
        note(x, when, 0, 1, 0, 1, 3, 1, 7);
        note(x, when, 1, 1, 0, 2, 6, 1, 7);
        when = "asked";
        Checks.due("ticks(3)", x.ticks(3), 0);
        member(x, when, 1, 2, 1, 0, 1, 2, 48, 1, 2, 0, 0, 0, 0);
        about(x, when, 3, 3, 2, 0, 3, 0, 0, 4, 0, 40);
        note(x, when, 0, 1, 0, 2, 6, 1, 7);
        note(x, when, 1, 2, 1, 0, 6, 1, 48);
        when = "answered by one";
        Checks.due("ticks(3)", x.ticks(3), 0);
        member(x, when, 0, 0, 1, 0, 0, 1, 1, 1, 1, 7, 3, 0, 0);
        about(x, when, 3, 6, 1, 0, 3, 0, 0, 0, 0, 40);
        note(x, when, 0, 2, 2, 0, 12, 1, 0);
        itStands(x);
        itIsTold(x);
    }

    private static void itStands(ClubRolls x) {
        String when = "it stands";
        Checks.due("ticks(5)", x.ticks(5), 0);
        Checks.due("ticks(1)", x.ticks(1), 1);
        member(x, when, 0, 0, 0, 1, 0, 7, 0, 1, 0, 0, 0, 0, 1);
        session(x, when, 0, 0, 0, 0, 1);
        about(x, when, 3, 12, 2, 0, 3, 0, 1, 1, 0, 40);
        note(x, when, 0, 3, 0, 1, 15, 1, 48);
        note(x, when, 1, 3, 0, 2, 18, 1, 0);
        Checks.due("say(0)", x.say(0), 0);
        Checks.due("say(0)", x.say(0), 1);
        when = "two speeches";
        member(x, when, 0, 0, 0, 1, 0, 7, 3, 1, 2, 0, 0, 0, 1);
        about(x, when, 3, 12, 6, 0, 5, 0, 1, 1, 0, 40);
        note(x, when, 0, 3, 0, 1, 15, 1, 48);
        note(x, when, 1, 0, 0, 1, 15, 1, 0);
        note(x, when, 2, 0, 0, 1, 15, 1, 1);
        note(x, when, 3, 3, 0, 2, 18, 1, 0);
        note(x, when, 4, 0, 0, 2, 18, 1, 0);
        note(x, when, 5, 0, 0, 2, 18, 1, 1);
    }

    private static void itIsTold(ClubRolls x) {
        String when = "one is told";
        Checks.due("ticks(3)", x.ticks(3), 0);
        member(x, when, 1, 2, 0, 1, 0, 7, 3, 1, 0, 0, 0, 0, 1);
        session(x, when, 1, 0, 0, 1, 48);
        member(x, when, 2, 5, 1, 0, 2, 4, 0, 1, 0, 0, 0, 0, 0);
        about(x, when, 3, 15, 3, 0, 5, 0, 1, 3, 0, 40);
        when = "all are told";
        Checks.due("ticks(3)", x.ticks(3), 0);
        member(x, when, 2, 5, 0, 1, 0, 7, 3, 1, 0, 0, 0, 0, 1);
        session(x, when, 2, 0, 0, 2, 0);
        about(x, when, 3, 18, 0, 0, 5, 0, 1, 7, 0, 40);
    }

    private static void aboutCounts() {
        ClubRolls x = Checks.club("m0m0m0g1x02c007t01");
        about(x, "one gone, one cut off", 3, 1, 0, 2, 0, 0, 0, 4, 2, 0);
        x = Checks.club("m0m0c003t03s0c102t01");
        about(x, "a speech that is too late", 2, 4, 0, 0, 1, 1, 2, 3, 0, 0);
    }

    private static void aboutRefuses() {
        ClubRolls x = Checks.club("m0");
        int[] out = {-1, 10, Integer.MIN_VALUE, Integer.MAX_VALUE};
        for (int what : out) {
            Checks.wrong("about(" + what + ")", () -> x.about(what));
        }
    }

    /** The member 1 is not told that the roll stands, as its way is cut then, and keeps the speeches of it. */
    private static void memberOfTellsKeptSpeeches() {
        ClubRolls x = Checks.club("m0m0m0c007t01x01t01t01s2s2t01");
        member(x, "not told", 1, 0, 1, 0, 1, 2, 0, 1, 0, 0, 0, 2, 0);
        member(x, "told", 2, 0, 0, 1, 0, 7, 768, 1, 2, 0, 0, 0, 1);
        x.leave(1);
        member(x, "gone", 1, 0, 2, 0, 1, 2, 0, 1, 0, 0, 0, 0, 0);
    }

    private static void memberOfRefuses() {
        ClubRolls x = Checks.club("m0m1");
        int[] out = {-1, 2, 6, Integer.MIN_VALUE, Integer.MAX_VALUE};
        for (int m : out) {
            Checks.outside("memberOf(" + m + ", 0)", () -> x.memberOf(m, 0));
            Checks.outside("memberOf(" + m + ", -1): the member is named first", () -> x.memberOf(m, -1));
        }
        int[] whats = {-1, 12, Integer.MIN_VALUE, Integer.MAX_VALUE};
        for (int what : whats) {
            Checks.wrong("memberOf(1, " + what + ")", () -> x.memberOf(1, what));
        }
    }

    /** The rolls 1 to 7, called alone: the sessions in the rolls 0 to 6 are over, 2 to 6 are remembered. */
    private static void sessionsAreTheLatestFive() {
        ClubRolls x = Checks.club("m0");
        for (int roll = 1; roll <= 7; roll++) {
            for (int i = 0; i < roll % 4; i++) {
                x.say(0);
            }
            Checks.due("call(0, 1)", x.call(0, 1), roll);
            Checks.due("sessions remembered", x.memberOf(0, 11), Math.min(roll, 5));
        }
        for (int k = 0; k < 5; k++) {
            session(x, "of seven", 0, k, k + 2, 0, (1 << (k + 3) % 4) - 1);
        }
        x = Checks.club("m0m3m0c207t02t07");
        session(x, "in the first roll", 0, 0, 0, 0, 0);
        session(x, "in the first roll", 2, 0, 0, 2, 0);
        x.call(0, 1);
        session(x, "in a roll of another caller", 0, 1, 1, 2, 0);
    }

    private static void sessionRefuses() {
        ClubRolls x = Checks.club("m0m0c001");
        Checks.due("session(0, 0, 1)", x.session(0, 0, 1), 0);
        Checks.outside("session(0, 1, 0)", () -> x.session(0, 1, 0));
        Checks.outside("session(0, -1, 0)", () -> x.session(0, -1, 0));
        Checks.outside("session(0, 5, 0)", () -> x.session(0, 5, 0));
        Checks.outside("session(1, 0, 0)", () -> x.session(1, 0, 0));
        Checks.outside("session(2, 0, 0)", () -> x.session(2, 0, 0));
        Checks.outside("session(-1, 0, 0)", () -> x.session(-1, 0, 0));
        Checks.outside("session(0, MIN, 0)", () -> x.session(0, Integer.MIN_VALUE, 0));
        Checks.outside("session(0, MAX, 0)", () -> x.session(0, Integer.MAX_VALUE, 0));
        Checks.outside("session(0, 1, 3): the session is named first", () -> x.session(0, 1, 3));
        Checks.outside("session(2, 0, 3): the member is named first", () -> x.session(2, 0, 3));
        Checks.wrong("session(0, 0, 3)", () -> x.session(0, 0, 3));
        Checks.wrong("session(0, 0, -1)", () -> x.session(0, 0, -1));
    }

    /** Sent first does not come first: by times, and of the same time by when they were sent. */
    private static void notesComeInOrder() {
        ClubRolls x = Checks.club("m9m0m5m5m9");
        x.call(0, 31);
        note(x, "far and near", 0, 1, 0, 4, 1, 1, 31);
        note(x, "far and near", 1, 1, 0, 2, 5, 1, 31);
        note(x, "far and near", 2, 1, 0, 3, 5, 1, 31);
        note(x, "far and near", 3, 1, 0, 1, 10, 1, 31);
        x.call(3, 12);
        note(x, "a second call", 1, 1, 3, 2, 1, 1, 12);
        note(x, "a second call", 2, 1, 0, 2, 5, 1, 31);
        x.call(2, 20);
        note(x, "a third call", 4, 1, 2, 4, 5, 1, 20);
        note(x, "a third call", 5, 1, 0, 1, 10, 1, 31);
        x.ticks(1);
        note(x, "of two calls with the same number the first one is answered", 0, 2, 4, 0, 2, 1, 0);
        Checks.due("notes", x.about(2), 5);
    }

    private static void noteRefuses() {
        ClubRolls x = Checks.club("m0m0c003");
        Checks.due("note(0, 2)", x.note(0, 2), 1);
        Checks.outside("note(1, 0)", () -> x.note(1, 0));
        Checks.outside("note(-1, 0)", () -> x.note(-1, 0));
        Checks.outside("note(150, 0)", () -> x.note(150, 0));
        Checks.outside("note(MIN, 0)", () -> x.note(Integer.MIN_VALUE, 0));
        Checks.outside("note(MAX, 0)", () -> x.note(Integer.MAX_VALUE, 0));
        Checks.outside("note(1, 6): the note is named first", () -> x.note(1, 6));
        Checks.wrong("note(0, 6)", () -> x.note(0, 6));
        Checks.wrong("note(0, -1)", () -> x.note(0, -1));
        Checks.wrong("note(0, MAX)", () -> x.note(0, Integer.MAX_VALUE));
    }

    private static void isCutTellsBothWays() {
        ClubRolls x = Checks.club("m0m1m2x02");
        for (int a = 0; a < 3; a++) {
            for (int b = 0; b < 3; b++) {
                Checks.due("isCut(" + a + ", " + b + ")", x.isCut(a, b), a + b == 2 && a != b ? 1 : 0);
            }
        }
        x.cut(2, 0, false);
        Checks.due("isCut(0, 2) once mended", x.isCut(0, 2), 0);
        Checks.due("isCut(2, 0) once mended", x.isCut(2, 0), 0);
    }

    private static void isCutRefuses() {
        ClubRolls x = Checks.club("m0m1");
        Checks.outside("isCut(0, 2)", () -> x.isCut(0, 2));
        Checks.outside("isCut(2, 0)", () -> x.isCut(2, 0));
        Checks.outside("isCut(-1, 0)", () -> x.isCut(-1, 0));
        Checks.outside("isCut(0, -1)", () -> x.isCut(0, -1));
        Checks.outside("isCut(7, 7)", () -> x.isCut(7, 7));
        Checks.outside("isCut(MIN, MAX)", () -> x.isCut(Integer.MIN_VALUE, Integer.MAX_VALUE));
    }
}
