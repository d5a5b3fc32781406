/** The bounds that promises 6 to 10 name: about, memberOf, session, note, isCut. */
final class BoundsOfTells {
    private BoundsOfTells() {
    }

    static void run() {
        aboutFrom0To9();
        aboutOfNoneAndOfMost();
        memberOfFrom0To11();
        memberOfWhatIsNoMember();
        memberOfOfNoneAndOfMost();
        sessionsFromTheOldestToTheLatest();
        sessionOfNone();
        sessionFrom0To2();
        notesFromTheFirstToTheLast();
        noteOfNone();
        noteFrom0To5();
        isCutOfOneAndTheSame();
        isCutOfWhatIsNoMember();
    }

    private static void aboutFrom0To9() {
        Document.promise(6, "Throws IllegalArgumentException if what is not 0 to 9", "Returns a number.",
            "Returns that number.");
        Bounds.tells(Bounds::busy, "about(0)", x -> x.about(0), 6);
        Bounds.tells(Bounds::busy, "about(9)", x -> x.about(9), 30);
        int[] out = {-1, 10, Bounds.MIN, Bounds.MAX};
        for (int what : out) {
            Bounds.refuses(Bounds.WRONG, Bounds::busy, "about(" + what + ")", x -> x.about(what));
            Bounds.refuses(Bounds.WRONG, Bounds::fresh, "about(" + what + ")", x -> x.about(what));
        }
    }

    private static void aboutOfNoneAndOfMost() {
        Document.promise(6, "what: 0: the members; 1: the time; 2: the notes under way; 3: the notes lost so far; 4: the"
            + " speeches so far; 5: the speeches that came too late so far, by notes; 6: the rolls that stood so far; 7:"
            + " the members who sit, as a set; 8: those who are gone, as a set; 9: setting 0");
        ClubRolls x = Bounds.oneRoll();
        Bounds.about(x, "six", 0, 6);
        Bounds.about(x, "all sit", 7, 63);
        Bounds.about(x, "none is gone", 8, 0);
        x.say(0);
        for (int m = 1; m < 6; m++) {
            x.call(m, 1 << m);
        }
        x.ticks(1);
        Bounds.about(x, "one speech", 4, 1);
        Bounds.about(x, "too late by five notes", 5, 5);
        Bounds.about(x, "the roll of all and five alone", 6, 6);
        x.say(1);
        Bounds.about(x, "two speeches", 4, 2);
        for (int m = 0; m < 6; m++) {
            x.leave(m);
        }
        Bounds.about(x, "none sits", 7, 0);
        Bounds.about(x, "all are gone", 8, 63);
        x = Checks.club("m0m0m0c003g2");
        Bounds.about(x, "1 sits, 0 is hushed", 7, 2);
        Bounds.about(x, "2 is gone", 8, 4);
        Bounds.about(Bounds.notes149(), "notes", 2, 149);
    }

    private static void memberOfFrom0To11() {
        Document.promise(7, "Throws IllegalArgumentException if what is not 0 to 11", "Returns a number of a member.",
            "Returns that number.");
        Bounds.tells(Bounds::busy, "memberOf(5, 0)", x -> x.memberOf(5, 0), 6);
        Bounds.tells(Bounds::busy, "memberOf(5, 11)", x -> x.memberOf(5, 11), 5);
        int[] out = {-1, 12, Bounds.MIN, Bounds.MAX};
        for (int what : out) {
            Bounds.refuses(Bounds.WRONG, Bounds::busy, "memberOf(0, " + what + ")", x -> x.memberOf(0, what));
            Bounds.refuses(Bounds.WRONG, Bounds::busy, "memberOf(5, " + what + ")", x -> x.memberOf(5, what));
        }
    }

    private static void memberOfWhatIsNoMember() {
        Document.promise(7, "m: member", "Throws IndexOutOfBoundsException if there is no such member");
        int[] out = {-1, 6, Bounds.MIN, Bounds.MAX};
        for (int m : out) {
            Bounds.refuses(Bounds.OUTSIDE, Bounds::busy, "memberOf(" + m + ", 0)", x -> x.memberOf(m, 0));
            Bounds.refuses(Bounds.OUTSIDE, Bounds::busy, "memberOf(" + m + ", 12)", x -> x.memberOf(m, 12));
            Bounds.refuses(Bounds.OUTSIDE, Bounds::busy, "memberOf(" + m + ", -1)", x -> x.memberOf(m, -1));
        }
        for (int count = 0; count < 6; count++) {
            ClubRolls x = Checks.club("m0".repeat(count));
            int m = count;
            Checks.outside("memberOf(" + m + ", 0) of " + m + " members", () -> x.memberOf(m, 0));
            x.member(7);
            Bounds.member(x, "one member more", m, 0, 7);
        }
    }

    private static void memberOfOfNoneAndOfMost() {
        Document.promise(7, "what: 0: the place; 1: 0 if it sits, 1 if it is hushed, 2 if it is gone; 2: the number of its"
            + " roll; 3: its caller; 4: its members, as a set; 5: what it has heard in its session, as a set of bits; 6:"
            + " its promise; 7: its own speeches in its session; 8: the members of the roll that it calls, as a set, 0 if"
            + " it calls none; 9: those of them who have answered, as a set; 10: the speeches that it keeps, how many; 11:"
            + " its sessions that are remembered");
        int[][] due = {{0, 1, 1, 0, 7, 768, 2, 0, 13, 5, 0, 1}, {0, 1, 0, 1, 2, 0, 1, 0, 0, 0, 2, 0},
            {0, 1, 1, 0, 7, 768, 2, 2, 0, 0, 0, 1}, {9, 0, 0, 3, 8, 61440, 0, 4, 0, 0, 0, 0},
            {3, 2, 0, 4, 16, 0, 0, 0, 0, 0, 0, 0}, {6, 0, 6, 5, 32, 1 << 20, 6, 1, 0, 0, 0, 5}};
        ClubRolls x = Bounds.busy();
        for (int m = 0; m < 6; m++) {
            for (int what = 0; what <= 11; what++) {
                Bounds.member(x, "busy", m, what, due[m][what]);
            }
        }
        x = Bounds.oneRoll();
        x.call(5, 63);
        Bounds.member(x, "all are called", 5, 8, 63);
        Bounds.member(x, "itself has answered", 5, 9, 32);
        x.ticks(2);
        Bounds.member(x, "it stands, so none is called", 5, 8, 0);
        Bounds.member(x, "it stands, so none has answered", 5, 9, 0);
        Bounds.member(Bounds.keeper(12), "kept", 5, 10, 12);
    }

    private static void sessionsFromTheOldestToTheLatest() {
        Document.promise(8, "k: which one, from 0 for the oldest one that is remembered", "what: 0: the number of its roll;"
            + " 1: its caller; 2: what was heard in it, as a set of bits", "Returns a number of a session that is over.",
            "Returns that number.");
        ClubRolls x = Checks.club("m0m0s1c102s1s1");
        Checks.due("session(1, 0, 0)", x.session(1, 0, 0), 0);
        Checks.due("session(1, 0, 1)", x.session(1, 0, 1), 1);
        Checks.due("session(1, 0, 2)", x.session(1, 0, 2), 16);
        Checks.outside("session(1, 1, 0)", () -> x.session(1, 1, 0));
        for (int roll = 2; roll <= 5; roll++) {
            x.call(1, 2);
        }
        Checks.due("session(1, 4, 0), the last one", x.session(1, 4, 0), 4);
        Checks.due("session(1, 1, 2)", x.session(1, 1, 2), 48);
        Checks.outside("session(1, 5, 0)", () -> x.session(1, 5, 0));
        x.call(1, 2);
        Checks.due("session(1, 0, 0), as the oldest one is forgotten", x.session(1, 0, 0), 1);
        Checks.due("session(1, 4, 0)", x.session(1, 4, 0), 5);
        Checks.outside("session(1, 5, 0) still", () -> x.session(1, 5, 0));
    }

    private static void sessionOfNone() {
        Document.promise(8, "m: member", "Throws IndexOutOfBoundsException if there is no such member or session");
        int[] members = {-1, 6, Bounds.MIN, Bounds.MAX};
        for (int m : members) {
            Bounds.refuses(Bounds.OUTSIDE, Bounds::busy, "session(" + m + ", 0, 0)", x -> x.session(m, 0, 0));
            Bounds.refuses(Bounds.OUTSIDE, Bounds::busy, "session(" + m + ", 0, 3)", x -> x.session(m, 0, 3));
        }
        int[] sessions = {-1, 5, Bounds.MIN, Bounds.MAX};
        for (int k : sessions) {
            Bounds.refuses(Bounds.OUTSIDE, Bounds::busy, "session(5, " + k + ", 0)", x -> x.session(5, k, 0));
            Bounds.refuses(Bounds.OUTSIDE, Bounds::busy, "session(5, " + k + ", 3)", x -> x.session(5, k, 3));
            Bounds.refuses(Bounds.OUTSIDE, Bounds::busy, "session(5, " + k + ", -1)", x -> x.session(5, k, -1));
        }
        Bounds.refuses(Bounds.OUTSIDE, Bounds::busy, "session(3, 0, 0), as none is over", x -> x.session(3, 0, 0));
        Bounds.refuses(Bounds.OUTSIDE, Bounds::busy, "session(3, 0, 3), as none is over", x -> x.session(3, 0, 3));
        Bounds.tells(Bounds::busy, "session(0, 0, 0), the one that is over", x -> x.session(0, 0, 0), 0);
        Bounds.refuses(Bounds.OUTSIDE, Bounds::busy, "session(0, 1, 0)", x -> x.session(0, 1, 0));
    }

    private static void sessionFrom0To2() {
        Document.promise(8, "Throws IllegalArgumentException if what is not 0 to 2");
        Bounds.tells(Bounds::busy, "session(5, 4, 0)", x -> x.session(5, 4, 0), 5);
        Bounds.tells(Bounds::busy, "session(5, 4, 2)", x -> x.session(5, 4, 2), 1 << 20);
        int[] out = {-1, 3, Bounds.MIN, Bounds.MAX};
        for (int what : out) {
            Bounds.refuses(Bounds.WRONG, Bounds::busy, "session(5, 4, " + what + ")", x -> x.session(5, 4, what));
            Bounds.refuses(Bounds.WRONG, Bounds::busy, "session(0, 0, " + what + ")", x -> x.session(0, 0, what));
        }
    }

    private static void notesFromTheFirstToTheLast() {
        Document.promise(9, "k: which one, from 0", "They are told in the order in which they come.", "what: 0: its kind: 0"
            + " a speech, 1 a call, 2 an answer, 3 a roll that stands; 1: who sent it; 2: to whom it goes; 3: its time; 4:"
            + " the number of the roll (of an answer that to which it answers); 5: of a speech its bit, of a call the"
            + " members of the roll, of an answer what was heard, of a roll that stands the set that is told",
            "Returns a number of a note under way.", "Returns that number.");
        ClubRolls x = Checks.club("m0m9m2s2c007t03");
        x.say(1);
        int[][] due = {{2, 2, 0, 6, 1, 256}, {1, 0, 1, 10, 1, 7}};
        notes(x, due);
        x = Checks.club("m0m0m4c003t02s0c205");
        notes(x, new int[][] {{3, 0, 1, 3, 1, 0}, {0, 0, 1, 3, 1, 0}, {1, 2, 0, 7, 1, 5}});
        x = Checks.club("m0m0c003t03s1s1s1s1");
        notes(x, new int[][] {{0, 1, 0, 4, 1, 4}, {0, 1, 0, 4, 1, 5}, {0, 1, 0, 4, 1, 6}, {0, 1, 0, 4, 1, 7}});
        ClubRolls full = Bounds.notes149();
        Checks.due("note(148, 4)", full.note(148, 4), 30);
        Checks.outside("note(149, 4) of 149", () -> full.note(149, 4));
        full.call(0, 3);
        Checks.due("note(149, 4)", full.note(149, 4), 31);
        Checks.outside("note(150, 4) of 150", () -> full.note(150, 4));
    }

    private static void notes(ClubRolls x, int[][] due) {
        Bounds.about(x, "notes", 2, due.length);
        for (int k = 0; k < due.length; k++) {
            for (int what = 0; what <= 5; what++) {
                Bounds.note(x, "in order", k, what, due[k][what]);
            }
        }
        Checks.outside("note(" + due.length + ", 0)", () -> x.note(due.length, 0));
    }

    private static void noteOfNone() {
        Document.promise(9, "Throws IndexOutOfBoundsException if there is no such note");
        Bounds.about(Bounds.busy(), "notes", 2, 1);
        int[] out = {-1, 1, 150, Bounds.MIN, Bounds.MAX};
        for (int k : out) {
            Bounds.refuses(Bounds.OUTSIDE, Bounds::busy, "note(" + k + ", 0)", x -> x.note(k, 0));
            Bounds.refuses(Bounds.OUTSIDE, Bounds::busy, "note(" + k + ", 6)", x -> x.note(k, 6));
            Bounds.refuses(Bounds.OUTSIDE, Bounds::busy, "note(" + k + ", -1)", x -> x.note(k, -1));
        }
        Bounds.refuses(Bounds.OUTSIDE, () -> Checks.club("m0m0"), "note(0, 0) of none", x -> x.note(0, 0));
        Bounds.refuses(Bounds.OUTSIDE, () -> Checks.club("m0m0c003t01x01t01"), "note(0, 0) as it came", x -> x.note(0, 0));
    }

    private static void noteFrom0To5() {
        Document.promise(9, "Throws IllegalArgumentException if what is not 0 to 5");
        Bounds.tells(Bounds::busy, "note(0, 0)", x -> x.note(0, 0), 1);
        Bounds.tells(Bounds::busy, "note(0, 5)", x -> x.note(0, 5), 13);
        int[] out = {-1, 6, Bounds.MIN, Bounds.MAX};
        for (int what : out) {
            Bounds.refuses(Bounds.WRONG, Bounds::busy, "note(0, " + what + ")", x -> x.note(0, what));
            Bounds.refuses(Bounds.WRONG, Bounds::notes149, "note(148, " + what + ")", x -> x.note(148, what));
        }
    }

    private static void isCutOfOneAndTheSame() {
        Document.promise(10, "Returns 1 if it is, otherwise 0 (also for one and the same).", "Tells whether the way between"
            + " two members is cut.");
        ClubRolls x = Checks.club("m0m0m0m0m0m0x05x12");
        for (int a = 0; a < 6; a++) {
            for (int b = 0; b < 6; b++) {
                boolean isCut = a + b == 5 && (a == 0 || b == 0) || a + b == 3 && a * b == 2;
                Checks.due("isCut(" + a + ", " + b + ")", x.isCut(a, b), isCut ? 1 : 0);
            }
        }
        Bounds.tells(Bounds::busy, "isCut(0, 1)", y -> y.isCut(0, 1), 1);
        Bounds.tells(Bounds::busy, "isCut(5, 5)", y -> y.isCut(5, 5), 0);
    }

    private static void isCutOfWhatIsNoMember() {
        Document.promise(10, "a: member", "b: member", "Throws IndexOutOfBoundsException if there is no such member");
        int[] out = {-1, 6, Bounds.MIN, Bounds.MAX};
        for (int m : out) {
            Bounds.refuses(Bounds.OUTSIDE, Bounds::busy, "isCut(" + m + ", 0)", x -> x.isCut(m, 0));
            Bounds.refuses(Bounds.OUTSIDE, Bounds::busy, "isCut(5, " + m + ")", x -> x.isCut(5, m));
            Bounds.refuses(Bounds.OUTSIDE, Bounds::busy, "isCut(" + m + ", " + m + ")", x -> x.isCut(m, m));
        }
    }
}
