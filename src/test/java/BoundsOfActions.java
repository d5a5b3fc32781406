import java.util.function.ToLongFunction;

/** The bounds that promises 11 to 19, and "ACTIONS AND UNDO" in the terms, name. */
final class BoundsOfActions {
    private static final int[] NO_MEMBERS = {-1, 6, Bounds.MIN, Bounds.MAX};

    private BoundsOfActions() {
    }

    static void run() {
        memberAtThePlaces0To9();
        memberUpToSix();
        sayFromTheBit0To23();
        sayOfWhatIsNoMember();
        sayOfOneWhoMayNot();
        callOfRollsFromOneToAll();
        callAlone();
        callOfWhatIsNoMember();
        callOfSetsThatAreNone();
        callByOneWhoIsGone();
        cutFromNoneToAll15();
        cutLetsNotesUnderWayCome();
        cutOfWhatIsNoMember();
        cutOfOneAndTheSame();
        leaveEndsCallsAndDropsWhatIsKept();
        leaveOfNone();
        leaveOfOneWhoIsGone();
        backEndsTheSession();
        backOfNone();
        backOfOneWhoIsNotGone();
        setFrom0To40();
        ticksFrom1To60();
        ticksTellNoneAndSeveral();
        undoDownToNone();
        undoRefuses();
        fourteenStatesAreRemembered();
        actionsThatMakeNothingDifferent();
        loadAndRestoreAreNoActions();
        theTextAndTheSlotsAreNoState();
    }

    private static void memberAtThePlaces0To9() {
        Document.promise(11, "Adds a member.", "place: 0 to 9", "Throws IllegalArgumentException if place is out of range");
        Checks.due("member(0)", Checks.club("m0").member(0), 1);
        Checks.due("member(9)", Checks.club("m0").member(9), 1);
        int[] out = {-1, 10, Bounds.MIN, Bounds.MAX};
        for (int place : out) {
            Bounds.refuses(Bounds.WRONG, Bounds::fresh, "member(" + place + ")", x -> x.member(place));
            Bounds.refuses(Bounds.WRONG, () -> Checks.club("m0m0m0m0m0"), "member(" + place + ")", x -> x.member(place));
            Bounds.refuses(Bounds.WRONG, Bounds::busy, "member(" + place + ") as a seventh", x -> x.member(place));
        }
    }

    private static void memberUpToSix() {
        Document.promise(11, "Returns its number.", "Throws IllegalStateException if there are 6");
        ClubRolls x = new ClubRolls();
        for (int m = 0; m < 6; m++) {
            Checks.due("member(9)", x.member(9), m);
        }
        Bounds.refuses(Bounds.REFUSED, Bounds::busy, "member(0) as a seventh", y -> y.member(0));
        Bounds.refuses(Bounds.REFUSED, Bounds::busy, "member(9) as a seventh", y -> y.member(9));
        Bounds.refuses(Bounds.REFUSED, () -> Checks.club("m0m0m0m0m0m0g5"), "a seventh for one who is gone",
            y -> y.member(0));
    }

    private static void sayFromTheBit0To23() {
        Document.promise(12, "A member makes a speech.", "Returns its bit, as a number of a bit.");
        Checks.due("say(0), the first bit", Checks.club("m0").say(0), 0);
        ClubRolls x = Checks.club("m0m0m0m0m0m0s5s5s5");
        Checks.due("say(5), the last bit", x.say(5), 23);
        Bounds.member(x, "heard", 5, 5, 15 << 20);
        Bounds.about(x, "speeches", 4, 4);
    }

    private static void sayOfWhatIsNoMember() {
        Document.promise(12, "m: member", "Throws IndexOutOfBoundsException if there is no such member");
        for (int m : NO_MEMBERS) {
            Bounds.refuses(Bounds.OUTSIDE, Bounds::busy, "say(" + m + ")", x -> x.say(m));
        }
        Bounds.refuses(Bounds.OUTSIDE, Bounds::fresh, "say(0) of none", x -> x.say(0));
        Bounds.refuses(Bounds.OUTSIDE, () -> Checks.club("m0"), "say(1) of one", x -> x.say(1));
    }

    private static void sayOfOneWhoMayNot() {
        Document.promise(12, "Throws IllegalStateException if it does not sit, or made 4 speeches in its session");
        Bounds.refuses(Bounds.REFUSED, Bounds::busy, "say(0), who is hushed and calls", x -> x.say(0));
        Bounds.refuses(Bounds.REFUSED, Bounds::busy, "say(1), who is hushed", x -> x.say(1));
        Bounds.refuses(Bounds.REFUSED, Bounds::busy, "say(3), who made 4", x -> x.say(3));
        Bounds.refuses(Bounds.REFUSED, Bounds::busy, "say(4), who is gone", x -> x.say(4));
        Bounds.refuses(Bounds.REFUSED, () -> Checks.club("m0s0s0s0s0g0"), "say(0), who is gone and made 4", x -> x.say(0));
        Checks.due("say(5), who sits", Bounds.busy().say(5), 21);
        Checks.due("say(0), who made 3", Checks.club("m0s0s0s0").say(0), 3);
        Checks.due("say(0), who made 4 in the session before", Checks.club("m0s0s0s0s0c001").say(0), 0);
    }

    private static void callOfRollsFromOneToAll() {
        Document.promise(13, "set: the members of the roll, m among them", "A member calls a roll.",
            "Returns the number of the roll.");
        for (int m = 0; m < 6; m++) {
            for (int set = 0; set < 64; set++) {
                int members = set;
                int caller = m;
                ClubRolls x = Checks.club("m0m0m0m0m0m0");
                if ((set >> m & 1) == 0) {
                    Checks.wrong("call(" + m + ", " + set + ")", () -> x.call(caller, members));
                } else {
                    Checks.due("call(" + m + ", " + set + ")", x.call(m, set), 1);
                    Bounds.about(x, "a call to each other one", 2, Integer.bitCount(set) - 1);
                }
            }
        }
    }

    private static void callAlone() {
        Document.promise(13, "(Alone in it, the roll stands at once.)");
        ClubRolls x = Checks.club("m0m0s0c003");
        Bounds.about(x, "with another one", 6, 0);
        Checks.due("call(0, 1)", x.call(0, 1), 2);
        Bounds.about(x, "alone, at once", 6, 1);
        Bounds.about(x, "at the same time", 1, 0);
        Bounds.member(x, "it sits", 0, 1, 0);
        Bounds.member(x, "in the roll", 0, 2, 2);
        Bounds.member(x, "its members", 0, 4, 1);
        Bounds.member(x, "it calls none", 0, 8, 0);
        Checks.due("what was heard in the session that is over", x.session(0, 0, 2), 1);
        Bounds.about(x, "only the call before is under way", 2, 1);
    }

    private static void callOfWhatIsNoMember() {
        Document.promise(13, "m: member", "Throws IndexOutOfBoundsException if there is no such member");
        for (int m : NO_MEMBERS) {
            Bounds.refuses(Bounds.OUTSIDE, Bounds::busy, "call(" + m + ", 63)", x -> x.call(m, 63));
            Bounds.refuses(Bounds.OUTSIDE, Bounds::busy, "call(" + m + ", 0): the member first", x -> x.call(m, 0));
            Bounds.refuses(Bounds.OUTSIDE, Bounds::busy, "call(" + m + ", 64): the member first", x -> x.call(m, 64));
        }
        Bounds.refuses(Bounds.OUTSIDE, Bounds::fresh, "call(0, 1) of none", x -> x.call(0, 1));
        Bounds.refuses(Bounds.OUTSIDE, () -> Checks.club("m0"), "call(1, 2) of one", x -> x.call(1, 2));
    }

    private static void callOfSetsThatAreNone() {
        Document.promise(13, "Throws IllegalArgumentException if set has members that there are not, or does not have m");
        int[] sets = {0, 30, 62, 64, 65, 127, -1, Bounds.MIN, Bounds.MIN + 1, Bounds.MAX};
        for (int set : sets) {
            Bounds.refuses(Bounds.WRONG, Bounds::busy, "call(0, " + set + ")", x -> x.call(0, set));
        }
        Bounds.refuses(Bounds.WRONG, () -> Checks.club("m0m0m0m0m0"), "call(0, 33) of five", x -> x.call(0, 33));
        Checks.due("call(0, 31) of five", Checks.club("m0m0m0m0m0").call(0, 31), 1);
        Bounds.refuses(Bounds.WRONG, Bounds::busy, "call(4, 15), who is gone: the set first", x -> x.call(4, 15));
        Bounds.refuses(Bounds.WRONG, Bounds::busy, "call(4, 80), who is gone: the set first", x -> x.call(4, 80));
    }

    private static void callByOneWhoIsGone() {
        Document.promise(13, "Throws IllegalStateException if m is gone");
        Bounds.refuses(Bounds.REFUSED, Bounds::busy, "call(4, 16)", x -> x.call(4, 16));
        Bounds.refuses(Bounds.REFUSED, Bounds::busy, "call(4, 63)", x -> x.call(4, 63));
        Checks.due("call(0, 63) of one who is gone, by one who is hushed", Bounds.busy().call(0, 63), 3);
        Checks.due("call(1, 2) by one who is hushed", Bounds.busy().call(1, 2), 2);
    }

    private static void cutFromNoneToAll15() {
        Document.promise(14, "Cuts the way between two members, or mends it.", "cut: whether it is cut then",
            "Returns how many ways are cut then.");
        ClubRolls x = Checks.club("m0m0m0m0m0m0");
        Checks.due("cut(0, 1, false) of none", x.cut(0, 1, false), 0);
        int ways = 0;
        for (int a = 0; a < 6; a++) {
            for (int b = 0; b < a; b++) {
                ways++;
                Checks.due("cut(" + a + ", " + b + ", true)", x.cut(a, b, true), ways);
                Checks.due("cut(" + b + ", " + a + ", true), which is cut", x.cut(b, a, true), ways);
            }
        }
        Checks.due("all ways", ways, 15);
        for (int a = 0; a < 6; a++) {
            for (int b = 0; b < a; b++) {
                ways--;
                Checks.due("cut(" + b + ", " + a + ", false)", x.cut(b, a, false), ways);
                Checks.due("cut(" + a + ", " + b + ", false), which is not cut", x.cut(a, b, false), ways);
            }
        }
    }

    private static void cutLetsNotesUnderWayCome() {
        Document.promise(14, "(Notes under way come all the same.)");
        ClubRolls x = Checks.club("m0m9c003");
        x.cut(0, 1, true);
        x.ticks(10);
        Bounds.member(x, "it came", 1, 6, 1);
        Bounds.about(x, "only the answer is lost", 3, 1);
    }

    private static void cutOfWhatIsNoMember() {
        Document.promise(14, "a: member", "Throws IndexOutOfBoundsException if there is no such member");
        for (int m : NO_MEMBERS) {
            Bounds.refuses(Bounds.OUTSIDE, Bounds::busy, "cut(" + m + ", 0, true)", x -> x.cut(m, 0, true));
            Bounds.refuses(Bounds.OUTSIDE, Bounds::busy, "cut(5, " + m + ", false)", x -> x.cut(5, m, false));
            Bounds.refuses(Bounds.OUTSIDE, Bounds::busy, "cut(" + m + ", " + m + ", true): the member first",
                x -> x.cut(m, m, true));
        }
    }

    private static void cutOfOneAndTheSame() {
        Document.promise(14, "b: another member", "Throws IllegalArgumentException if both are the same");
        for (int m = 0; m < 6; m++) {
            int both = m;
            Bounds.refuses(Bounds.WRONG, Bounds::busy, "cut(" + m + ", " + m + ", true)", x -> x.cut(both, both, true));
            Bounds.refuses(Bounds.WRONG, Bounds::busy, "cut(" + m + ", " + m + ", false)", x -> x.cut(both, both, false));
        }
    }

    private static void leaveEndsCallsAndDropsWhatIsKept() {
        Document.promise(15, "A member is gone: it calls no roll any more, and keeps no speeches.", "Returns the number of"
            + " its roll.");
        ClubRolls x = Bounds.keeper(12);
        Checks.due("leave(5), whose roll is 0", x.leave(5), 0);
        Bounds.member(x, "12 are kept no more", 5, 10, 0);
        Checks.due("leave(0), whose roll is 1", x.leave(0), 1);
        x = Checks.club("m0m0c003t01");
        x.leave(0);
        Bounds.member(x, "calling no more", 0, 8, 0);
        Bounds.member(x, "none has answered", 0, 9, 0);
        x.ticks(1);
        Bounds.about(x, "the last answer is lost", 3, 1);
        Bounds.about(x, "no roll stood", 6, 0);
        x = Checks.club("m0m0p01x01c003g0t05");
        Bounds.about(x, "one who is gone has no patience", 6, 0);
    }

    private static void leaveOfNone() {
        Document.promise(15, "m: member", "Throws IndexOutOfBoundsException if there is no such member");
        for (int m : NO_MEMBERS) {
            Bounds.refuses(Bounds.OUTSIDE, Bounds::busy, "leave(" + m + ")", x -> x.leave(m));
        }
        Bounds.refuses(Bounds.OUTSIDE, Bounds::fresh, "leave(0) of none", x -> x.leave(0));
    }

    private static void leaveOfOneWhoIsGone() {
        Document.promise(15, "Throws IllegalStateException if it is gone");
        Bounds.refuses(Bounds.REFUSED, Bounds::busy, "leave(4)", x -> x.leave(4));
        Bounds.refuses(Bounds.REFUSED, Bounds.behind(() -> Checks.club("m0"), x -> x.leave(0)), "leave(0), again", x -> x.leave(0));
    }

    private static void backEndsTheSession() {
        Document.promise(16, "A member who is gone comes back: its session is over, as it was heard;",
            "it sits alone in a roll of its own, whose number is 1 more than its promise, which becomes that.",
            "Returns the number of that roll.");
        ClubRolls x = Checks.club("m0m0s1c102c001c003t01g1");
        Checks.due("back(1), whose promise is 2", x.back(1), 3);
        int[] due = {0, 0, 3, 1, 2, 0, 3, 0, 0, 0, 0, 2};
        for (int what = 0; what <= 11; what++) {
            Bounds.member(x, "back", 1, what, due[what]);
        }
        Checks.due("the session that is over, as it was heard", x.session(1, 1, 2), 0);
        Bounds.about(x, "the roll of back() did not stand", 6, 2);
        x = Checks.club("m0s0s0g0");
        Checks.due("back(0), whose promise is 0", x.back(0), 1);
        Checks.due("the session that is over, as it was heard", x.session(0, 0, 2), 3);
        for (int over = 2; over <= 7; over++) {
            x.leave(0);
            Checks.due("back(0)", x.back(0), over);
            Bounds.member(x, "sessions", 0, 11, Math.min(over, 5));
        }
    }

    private static void backOfNone() {
        Document.promise(16, "m: member", "Throws IndexOutOfBoundsException if there is no such member");
        for (int m : NO_MEMBERS) {
            Bounds.refuses(Bounds.OUTSIDE, Bounds::busy, "back(" + m + ")", x -> x.back(m));
        }
        Bounds.refuses(Bounds.OUTSIDE, Bounds::fresh, "back(0) of none", x -> x.back(0));
    }

    private static void backOfOneWhoIsNotGone() {
        Document.promise(16, "Throws IllegalStateException if it is not gone");
        Bounds.refuses(Bounds.REFUSED, Bounds::busy, "back(5), who sits", x -> x.back(5));
        Bounds.refuses(Bounds.REFUSED, Bounds::busy, "back(1), who is hushed", x -> x.back(1));
        Bounds.refuses(Bounds.REFUSED, Bounds::busy, "back(0), who calls", x -> x.back(0));
        Bounds.refuses(Bounds.REFUSED, Bounds.behind(() -> Checks.club("m0g0"), x -> x.back(0)), "back(0), again", x -> x.back(0));
    }

    private static void setFrom0To40() {
        Document.promise(17, "Changes setting 0.", "v: 0 to 40", "Returns the previous one.",
            "Throws IllegalArgumentException if v is out of range");
        ClubRolls x = new ClubRolls();
        int before = 0;
        for (int v = 40; v >= 0; v--) {
            Checks.due("set(" + v + ")", x.set(v), before);
            Bounds.about(x, "the setting", 9, v);
            before = v;
        }
        int[] out = {-1, 41, Bounds.MIN, Bounds.MAX};
        for (int v : out) {
            Bounds.refuses(Bounds.WRONG, Bounds::busy, "set(" + v + ")", y -> y.set(v));
        }
    }

    private static void ticksFrom1To60() {
        Document.promise(18, "Lets ticks go by.", "n: 1 to 60", "Throws IllegalArgumentException if n is out of range");
        for (int n = 1; n <= 60; n++) {
            ClubRolls x = Checks.club("t11");
            Checks.due("ticks(" + n + ")", x.ticks(n), 0);
            Bounds.about(x, "the time", 1, 11 + n);
        }
        int[] out = {0, -1, 61, Bounds.MIN, Bounds.MAX};
        for (int n : out) {
            Bounds.refuses(Bounds.WRONG, Bounds::busy, "ticks(" + n + ")", x -> x.ticks(n));
        }
    }

    private static void ticksTellNoneAndSeveral() {
        Document.promise(18, "Returns how many rolls stood in them.");
        ClubRolls x = Checks.club("m0m0m0m0m0m0c003c212c448c001");
        Checks.due("ticks(1), ahead of the answers", x.ticks(1), 0);
        Checks.due("ticks(1), the rolls of 2 and 4", x.ticks(1), 2);
        Checks.due("ticks(60), nothing more", x.ticks(60), 0);
        x = Checks.club("m0m0m0m0m0m0p01x01x23x45x12x34x50c003c106c212c324c448c533");
        Checks.due("ticks(1), all out of patience", x.ticks(1), 6);
    }

    private static void undoDownToNone() {
        Document.terms("Before each action, the state is remembered.");
        Document.promise(19, "Takes back the last action that is remembered.", "Returns how many states are still"
            + " remembered.", "Throws IllegalStateException if none is remembered");
        ClubRolls x = Checks.club("m0");
        x.say(0);
        Checks.due("undo() of one", x.undo(), 0);
        Bounds.about(x, "no speech", 4, 0);
        Checks.refused("undo() of none", x::undo);
        x.say(0);
        x.say(0);
        Checks.due("undo() of two", x.undo(), 1);
        Bounds.about(x, "one speech", 4, 1);
        Checks.due("undo() of one", x.undo(), 0);
        Checks.refused("undo() of none", x::undo);
    }

    private static void undoRefuses() {
        Bounds.refuses(Bounds.REFUSED, Bounds::fresh, "undo() of a new object", x -> x.undo());
        Bounds.refuses(Bounds.REFUSED, () -> Checks.club("m0m0c003t03"), "undo() behind load()", x -> x.undo());
        Bounds.refuses(Bounds.REFUSED, () -> undone(Bounds.busy()), "undo() behind all", x -> x.undo());
    }

    /** The 14 actions that are remembered are taken back. */
    private static ClubRolls undone(ClubRolls x) {
        for (int left = 13; left >= 0; left--) {
            Checks.due("undo()", x.undo(), left);
        }
        return x;
    }

    private static void fourteenStatesAreRemembered() {
        Document.terms("At most 14 states are remembered;", "when one more is remembered, the oldest one is forgotten.");
        for (int actions = 0; actions <= 45; actions++) {
            ClubRolls x = new ClubRolls();
            for (int i = 0; i < actions; i++) {
                x.ticks(1);
            }
            for (int left = Math.min(actions, 14) - 1; left >= 0; left--) {
                Checks.due("undo() of " + actions + " actions", x.undo(), left);
            }
            Checks.refused("undo() of what is forgotten of " + actions, x::undo);
            Bounds.about(x, "the oldest state that is remembered of " + actions, 1, Math.max(actions - 14, 0));
            x.ticks(2);
            Checks.due("undo() behind that", x.undo(), 0);
            Bounds.about(x, "taken back behind that", 1, Math.max(actions - 14, 0));
        }
        ClubRolls x = new ClubRolls();
        for (int i = 0; i < 14; i++) {
            x.ticks(1);
        }
        x.undo();
        x.ticks(2);
        x.ticks(2);
        for (int left = 13; left >= 0; left--) {
            Checks.due("undo() of 13 and 2", x.undo(), left);
        }
        Bounds.about(x, "the oldest state of 13 and 2", 1, 1);
    }

    private static void isAction(String what, ToLongFunction<ClubRolls> call) {
        ClubRolls x = Bounds.busy();
        x.restore(0);
        call.applyAsLong(x);
        Checks.due("undo() of " + what, x.undo(), 0);
        Checks.refused("a second undo() behind " + what, x::undo);
    }

    private static void actionsThatMakeNothingDifferent() {
        Document.terms("Each call of one of them that does not throw an exception is an action, also if nothing becomes"
            + " different (undo is none).");
        isAction("set() to what it is", x -> x.set(30));
        isAction("cut() of what is cut", x -> x.cut(0, 1, true));
        isAction("cut() of what is not cut", x -> x.cut(0, 2, false));
        isAction("say()", x -> x.say(5));
        isAction("call()", x -> x.call(5, 63));
        isAction("leave()", x -> x.leave(5));
        isAction("back()", x -> x.back(4));
        isAction("ticks()", x -> x.ticks(60));
        ClubRolls x = new ClubRolls();
        x.member(0);
        Checks.due("undo() of member()", x.undo(), 0);
        Bounds.about(x, "members", 0, 0);
        Checks.due("a member again", x.member(5), 0);
        Bounds.member(x, "its place", 0, 0, 5);
    }

    private static void isNoAction(String what, ToLongFunction<ClubRolls> call) {
        ClubRolls x = new ClubRolls();
        x.member(0);
        x.say(0);
        call.applyAsLong(x);
        Checks.due("undo() behind " + what, x.undo(), 1);
        Bounds.about(x, "it takes the speech back", 4, 0);
    }

    private static void loadAndRestoreAreNoActions() {
        Document.terms("load and restore are not actions.");
        Bounds.refuses(Bounds.REFUSED, Bounds.behind(() -> Checks.write(Bounds.busy(), "Rm0"), x -> x.load()),
            "undo() behind load()", x -> x.undo());
        Bounds.refuses(Bounds.REFUSED, Bounds.behind(Bounds::busy, x -> x.restore(0)), "undo() behind restore()",
            x -> x.undo());
        isNoAction("undo() of an action", x -> x.say(0) + x.undo());
        isNoAction("save()", x -> x.save(0) + x.save(1));
        isNoAction("append()", x -> x.append('R'));
        isNoAction("clearText()", x -> x.clearText());
        isNoAction("errorPosition()", x -> x.errorPosition());
        isNoAction("what there is", x -> x.about(0) + x.memberOf(0, 0) + x.isCut(0, 0));
        isNoAction("standsIn()", x -> x.standsIn(0, 1, 0));
        isNoAction("compare(), lacks() and together()", x -> x.compare(0, 0, 0) + x.lacks(0) + x.together());
        isNoAction("runScript()", x -> x.runScript(1, 50001));
        isNoAction("simulate()", x -> x.simulate(0, 60));
    }

    private static void theTextAndTheSlotsAreNoState() {
        Document.terms("The methods in the section \"actions\" change the state, which consists of everything but the text"
            + " and the save slots.");
        ClubRolls x = Checks.club("m0");
        x.ticks(3);
        x.save(1);
        Checks.write(x, "Rm0m1");
        x.undo();
        Checks.due("the slot is kept by undo()", x.restore(1), 3);
        Checks.due("the text is kept by undo() and restore()", x.clearText(), 5);
        x.ticks(1);
        x.append('R');
        x.undo();
        Checks.due("what was appended behind the action", x.clearText(), 1);
    }
}
