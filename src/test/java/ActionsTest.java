import java.util.function.LongSupplier;

/** Promises 11 to 19: the actions, what each answers and refuses, and undo. */
public final class ActionsTest {
    private static final int MIN = Integer.MIN_VALUE;
    private static final int MAX = Integer.MAX_VALUE;

    private ActionsTest() {
    }

    public static void main(String[] args) {
        memberAddsUpToSix();
        sayCountsToFour();
        sayRefuses();
        callTellsTheNumber();
        callRefuses();
        cutCountsTheWays();
        cutRefuses();
        leaveTellsTheRoll();
        leaveRefuses();
        backMakesARollOfItsOwn();
        backRefuses();
        setTellsThePreviousOne();
        setRefuses();
        ticksCountTheRolls();
        ticksRefuse();
        undoTakesBackEachAction();
        undoTakesBackWhatIsHidden();
        undoTakesBackWhatIsTold();
        undoTakesBackTheCountOfWays();
        undoRemembersFourteen();
        undoRefuses();
        aRefusedCallChangesNothing();
        Checks.end("ActionsTest");
    }

    private static void memberAddsUpToSix() {
        ClubRolls x = new ClubRolls();
        int[] places = {0, 9, 4, 4, 9, 1};
        for (int m = 0; m < 6; m++) {
            Checks.wrong("member(-1)", () -> x.member(-1));
            Checks.wrong("member(10)", () -> x.member(10));
            Checks.due("member(" + places[m] + ")", x.member(places[m]), m);
            Checks.due("its place", x.memberOf(m, 0), places[m]);
            Checks.due("its caller", x.memberOf(m, 3), m);
            Checks.due("its roll's members", x.memberOf(m, 4), 1 << m);
        }
        Checks.refused("a seventh member", () -> x.member(0));
        Checks.wrong("member(10) as a seventh: the place is named first", () -> x.member(10));
        Checks.wrong("member(MIN)", () -> x.member(MIN));
        Checks.wrong("member(MAX)", () -> x.member(MAX));
        Checks.due("members", x.about(0), 6);
        Checks.due("those who sit", x.about(7), 63);
    }

    private static void sayCountsToFour() {
        ClubRolls x = Checks.club("m0m0m0m0m0m0");
        for (int m = 0; m < 6; m++) {
            for (int j = 0; j < 4; j++) {
                Checks.due("say(" + m + ")", x.say(m), 4 * m + j);
            }
            Checks.due("heard by " + m, x.memberOf(m, 5), 15 << 4 * m);
        }
        Checks.due("speeches", x.about(4), 24);
        Checks.due("notes of those who are alone in their rolls", x.about(2), 0);
        x.call(5, 32);
        Checks.due("say(5) in the next session", x.say(5), 20);
        Checks.due("its own speeches in it", x.memberOf(5, 7), 1);
        Checks.due("speeches in all", x.about(4), 25);
    }

    private static void sayRefuses() {
        ClubRolls x = Checks.club("m0m0m0s0s0s0s0c106g2");
        Checks.refused("say(0), a fifth time", () -> x.say(0));
        Checks.refused("say(1), who is hushed", () -> x.say(1));
        Checks.refused("say(2), who is gone", () -> x.say(2));
        Checks.outside("say(3)", () -> x.say(3));
        Checks.outside("say(-1)", () -> x.say(-1));
        Checks.outside("say(MIN)", () -> x.say(MIN));
        Checks.outside("say(MAX)", () -> x.say(MAX));
        Checks.due("speeches", x.about(4), 4);
    }

    private static void callTellsTheNumber() {
        ClubRolls x = Checks.club("m0m0m0");
        Checks.due("call(0, 3)", x.call(0, 3), 1);
        Checks.due("call(0, 5) anew", x.call(0, 5), 2);
        Checks.due("its roll that is called", x.memberOf(0, 8), 5);
        Checks.due("those who have answered", x.memberOf(0, 9), 1);
        Checks.due("call(2, 6)", x.call(2, 6), 1);
        x.ticks(1);
        Checks.due("the greatest number of which 2 knows", x.memberOf(2, 6), 2);
        Checks.due("2 calls no more", x.memberOf(2, 8), 0);
        Checks.due("none has answered it", x.memberOf(2, 9), 0);
        Checks.due("call(2, 4), alone: one more than that", x.call(2, 4), 3);
        Checks.due("it sits in it", x.memberOf(2, 1), 0);
        Checks.due("its number", x.memberOf(2, 2), 3);
        Checks.due("its members", x.memberOf(2, 4), 4);
        Checks.due("it calls none then", x.memberOf(2, 8) + x.memberOf(2, 9), 0);
        Checks.due("its session that is over", x.memberOf(2, 11), 1);
        Checks.due("the rolls that stood", x.about(6), 1);
        Checks.due("call(0, 7) while hushed", x.call(0, 7), 3);
    }

    private static void callRefuses() {
        ClubRolls x = Checks.club("m0m0m0g2");
        Checks.outside("call(3, 8)", () -> x.call(3, 8));
        Checks.outside("call(-1, 1)", () -> x.call(-1, 1));
        Checks.outside("call(MIN, 1)", () -> x.call(MIN, 1));
        Checks.outside("call(MAX, 1)", () -> x.call(MAX, 1));
        Checks.outside("call(32, 1)", () -> x.call(32, 1));
        Checks.outside("call(3, 0): the member is named first", () -> x.call(3, 0));
        int[] sets = {0, 2, 6, 8, 9, 15, 64 + 1, -1, MIN, MIN + 1, MAX};
        for (int set : sets) {
            Checks.wrong("call(0, " + set + ")", () -> x.call(0, set));
        }
        Checks.wrong("call(2, 3), without itself: the set is named first", () -> x.call(2, 3));
        Checks.wrong("call(2, 12), by one who is gone: the set is named first", () -> x.call(2, 12));
        Checks.refused("call(2, 4), by one who is gone", () -> x.call(2, 4));
        Checks.refused("call(2, 7), by one who is gone", () -> x.call(2, 7));
        Checks.due("call(0, 7), of one who is gone", x.call(0, 7), 1);
    }

    private static void cutCountsTheWays() {
        ClubRolls x = Checks.club("m0m1m2");
        Checks.due("cut(0, 1, true)", x.cut(0, 1, true), 1);
        Checks.due("cut(1, 0, true), again", x.cut(1, 0, true), 1);
        Checks.due("cut(2, 1, true)", x.cut(2, 1, true), 2);
        Checks.due("cut(0, 2, false), not cut", x.cut(0, 2, false), 2);
        Checks.due("cut(0, 2, true)", x.cut(0, 2, true), 3);
        Checks.due("cut(1, 0, false)", x.cut(1, 0, false), 2);
        Checks.due("isCut(0, 1)", x.isCut(0, 1), 0);
        Checks.due("isCut(1, 2)", x.isCut(1, 2), 1);
        Checks.due("all six, 15 ways", Checks.club("m0m0m0m0m0m0x01x02x03x04x05x12x13x14x15x23x24x25x34x35")
            .cut(4, 5, true), 15);
    }

    private static void cutRefuses() {
        ClubRolls x = Checks.club("m0m1");
        Checks.outside("cut(0, 2, true)", () -> x.cut(0, 2, true));
        Checks.outside("cut(2, 0, true)", () -> x.cut(2, 0, true));
        Checks.outside("cut(-1, 0, false)", () -> x.cut(-1, 0, false));
        Checks.outside("cut(0, MIN, false)", () -> x.cut(0, MIN, false));
        Checks.outside("cut(MAX, 0, false)", () -> x.cut(MAX, 0, false));
        Checks.outside("cut(2, 2, true): the member is named first", () -> x.cut(2, 2, true));
        Checks.wrong("cut(1, 1, true)", () -> x.cut(1, 1, true));
        Checks.wrong("cut(0, 0, false)", () -> x.cut(0, 0, false));
    }

    private static void leaveTellsTheRoll() {
        ClubRolls x = Checks.club("m0m0c001c001c001s0c003");
        Checks.due("leave(0), in the roll 3", x.leave(0), 3);
        Checks.due("it is gone", x.memberOf(0, 1), 2);
        Checks.due("its roll stays", x.memberOf(0, 2), 3);
        Checks.due("what it heard stays", x.memberOf(0, 5), 1);
        Checks.due("its promise stays", x.memberOf(0, 6), 4);
        Checks.due("it calls none", x.memberOf(0, 8) + x.memberOf(0, 9), 0);
        Checks.due("its sessions stay", x.memberOf(0, 11), 3);
        Checks.due("leave(1)", x.leave(1), 0);
        Checks.due("those who are gone", x.about(8), 3);
        Checks.due("those who sit", x.about(7), 0);
    }

    private static void leaveRefuses() {
        ClubRolls x = Checks.club("m0g0m1");
        Checks.refused("leave(0) again", () -> x.leave(0));
        Checks.outside("leave(2)", () -> x.leave(2));
        Checks.outside("leave(-1)", () -> x.leave(-1));
        Checks.outside("leave(MIN)", () -> x.leave(MIN));
        Checks.outside("leave(MAX)", () -> x.leave(MAX));
    }

    private static void backMakesARollOfItsOwn() {
        ClubRolls x = Checks.club("m0m0c003t03s1s0t01c001c003g0");
        Checks.due("back(0), whose promise is 3", x.back(0), 4);
        Checks.due("it sits", x.memberOf(0, 1), 0);
        Checks.due("its roll", x.memberOf(0, 2), 4);
        Checks.due("its caller", x.memberOf(0, 3), 0);
        Checks.due("its members", x.memberOf(0, 4), 1);
        Checks.due("what it heard", x.memberOf(0, 5), 0);
        Checks.due("its promise", x.memberOf(0, 6), 4);
        Checks.due("its sessions", x.memberOf(0, 11), 3);
        Checks.due("the session that is over", x.session(0, 2, 0), 2);
        Checks.due("it stood alone", x.about(6), 2);
        x.say(0);
        x.leave(0);
        x.back(0);
        Checks.due("the next session that is over", x.session(0, 3, 0), 4);
        Checks.due("its caller", x.session(0, 3, 1), 0);
        Checks.due("as it was heard", x.session(0, 3, 2), 1);
        Checks.due("its speeches are counted anew", x.say(0), 0);
        ClubRolls y = Checks.club("m0m0s1g1");
        Checks.due("back(1), at once", y.back(1), 1);
        Checks.due("the session of the first roll", y.session(1, 0, 2), 16);
        Checks.due("its caller", y.session(1, 0, 1), 1);
    }

    private static void backRefuses() {
        ClubRolls x = Checks.club("m0m0c102c103");
        Checks.refused("back(0), who sits", () -> x.back(0));
        Checks.refused("back(1), who is hushed", () -> x.back(1));
        Checks.outside("back(2)", () -> x.back(2));
        Checks.outside("back(-1)", () -> x.back(-1));
        Checks.outside("back(MIN)", () -> x.back(MIN));
        Checks.outside("back(MAX)", () -> x.back(MAX));
    }

    private static void setTellsThePreviousOne() {
        ClubRolls x = new ClubRolls();
        Checks.due("set(40)", x.set(40), 0);
        Checks.due("set(1)", x.set(1), 40);
        Checks.due("set(1)", x.set(1), 1);
        Checks.due("set(0)", x.set(0), 1);
        Checks.due("about(9)", x.about(9), 0);
    }

    private static void setRefuses() {
        ClubRolls x = Checks.club("p07");
        int[] out = {-1, 41, MIN, MAX};
        for (int v : out) {
            Checks.wrong("set(" + v + ")", () -> x.set(v));
        }
        Checks.due("about(9)", x.about(9), 7);
    }

    private static void ticksCountTheRolls() {
        ClubRolls x = Checks.club("m0m0m9m0");
        Checks.due("ticks(60), nothing is called", x.ticks(60), 0);
        x.call(0, 3);
        x.call(2, 12);
        Checks.due("ticks(1)", x.ticks(1), 0);
        Checks.due("ticks(1), the near one", x.ticks(1), 1);
        Checks.due("ticks(18), the far one", x.ticks(18), 1);
        Checks.due("time", x.about(1), 80);
        x.call(0, 1);
        Checks.due("ticks(1), a roll that stood ahead of it", x.ticks(1), 0);
        x.call(0, 3);
        x.call(2, 12);
        Checks.due("ticks(60), both", x.ticks(60), 2);
        Checks.due("about(6)", x.about(6), 5);
        Checks.due("time", x.about(1), 141);
    }

    private static void ticksRefuse() {
        ClubRolls x = new ClubRolls();
        int[] out = {0, -1, 61, MIN, MAX};
        for (int n : out) {
            Checks.wrong("ticks(" + n + ")", () -> x.ticks(n));
        }
        Checks.due("time", x.about(1), 0);
    }

    /** Each kind of action, also one that makes nothing different, is taken back by one undo. */
    private static void undoTakesBackEachAction() {
        ClubRolls x = Checks.club("m0m2m3s0c207t04g1x02p05");
        LongSupplier[] actions = {() -> x.member(4), () -> x.say(3), () -> x.call(0, 7), () -> x.cut(0, 1, true),
            () -> x.cut(0, 2, true), () -> x.cut(0, 1, false), () -> x.leave(0), () -> x.back(1), () -> x.set(5),
            () -> x.set(6), () -> x.ticks(1), () -> x.ticks(60), () -> x.call(2, 4), () -> x.say(2)};
        String[] before = new String[actions.length];
        for (int i = 0; i < actions.length; i++) {
            before[i] = Checks.all(x);
            actions[i].getAsLong();
        }
        for (int i = actions.length - 1; i >= 0; i--) {
            Checks.due("undo of the action " + i, x.undo(), i);
            Checks.same("the club behind undo of the action " + i, Checks.all(x), before[i]);
        }
        Checks.refused("undo, one more", x::undo);
    }

    /** What no method tells (answers, since when a roll is called, what is kept) comes back as well. */
    private static void undoTakesBackWhatIsHidden() {
        undoTakesBackWhatIsHidden("t02m0m0m3s0s1c007p09t03");
        undoTakesBackWhatIsHidden("t02m0m0m3s0s1c007p05t03");
    }

    private static void undoTakesBackWhatIsHidden(String club) {
        ClubRolls x = Checks.club(club);
        ClubRolls y = Checks.club(club);
        x.call(0, 3);
        x.ticks(60);
        x.call(0, 7);
        x.ticks(1);
        for (int i = 0; i < 4; i++) {
            x.undo();
        }
        for (int i = 0; i < 20; i++) {
            Checks.due("the ticks go on as if nothing was done", x.ticks(1), y.ticks(1));
            Checks.same("tick " + i, Checks.all(x), Checks.all(y));
        }
        x.clearText();
        x.undo();
        Checks.due("the text is no part of the state", x.clearText(), 0);
    }

    /** The callers of sessions, and the speeches that are kept as a roll is not told. */
    private static void undoTakesBackWhatIsTold() {
        ClubRolls x = Checks.club("m0m0m0c007t01x01t01t01s2s2t01");
        Checks.due("kept by 1", x.memberOf(1, 10), 2);
        x.call(2, 6);
        x.ticks(3);
        Checks.due("kept by 1, told of the roll 2 of 2", x.memberOf(1, 10), 0);
        x.call(1, 2);
        x.call(1, 6);
        x.ticks(3);
        x.call(2, 4);
        int[] callers = {2, 0, 2, 1};
        for (int k = 0; k < 4; k++) {
            Checks.due("the caller of the session " + k, x.session(2, k, 1), callers[k]);
        }
        String before = Checks.all(x);
        for (int i = 0; i < 5; i++) {
            x.call(2, 4);
        }
        Checks.due("all callers are forgotten", x.session(2, 0, 1) * 10 + x.session(2, 4, 1), 22);
        for (int i = 0; i < 5; i++) {
            x.undo();
        }
        Checks.same("the callers of sessions", Checks.all(x), before);
        for (int i = 0; i < 6; i++) {
            x.undo();
        }
        Checks.due("kept by 1", x.memberOf(1, 10), 2);
    }

    private static void undoTakesBackTheCountOfWays() {
        ClubRolls x = Checks.club("m0m0m0x01");
        for (int i = 0; i < 3; i++) {
            Checks.due("cut(1, 2, true)", x.cut(1, 2, true), 2);
            x.undo();
        }
        Checks.due("cut(0, 1, false)", x.cut(0, 1, false), 0);
    }

    private static void undoRemembersFourteen() {
        ClubRolls x = new ClubRolls();
        for (int i = 1; i <= 17; i++) {
            x.ticks(1);
        }
        for (int left = 13; left >= 0; left--) {
            Checks.due("undo", x.undo(), left);
            Checks.due("the time then", x.about(1), left + 3);
        }
        Checks.refused("undo behind 14", x::undo);
        Checks.due("time", x.about(1), 3);
        x.ticks(5);
        x.ticks(5);
        Checks.due("undo", x.undo(), 1);
        x.ticks(6);
        Checks.due("undo of a new action behind an undo", x.undo(), 1);
        Checks.due("time", x.about(1), 8);
        Checks.due("undo", x.undo(), 0);
        Checks.due("time", x.about(1), 3);
    }

    private static void undoRefuses() {
        ClubRolls x = new ClubRolls();
        Checks.refused("undo of nothing", x::undo);
        Checks.wrong("ticks(0)", () -> x.ticks(0));
        Checks.outside("say(0)", () -> x.say(0));
        Checks.refused("undo of what threw", x::undo);
        x.set(0);
        Checks.due("undo of what makes nothing different", x.undo(), 0);
        Checks.refused("undo is no action", x::undo);
    }

    private static void aRefusedCallChangesNothing() {
        ClubRolls x = Checks.club("m0m2m3m4m5m6c207t04g1x02p05");
        x.set(6);
        String before = Checks.all(x);
        Checks.refused("member(0)", () -> x.member(0));
        Checks.wrong("member(10)", () -> x.member(10));
        Checks.refused("say(1)", () -> x.say(1));
        Checks.outside("say(6)", () -> x.say(6));
        Checks.refused("call(1, 2)", () -> x.call(1, 2));
        Checks.wrong("call(0, 2)", () -> x.call(0, 2));
        Checks.wrong("cut(0, 0, true)", () -> x.cut(0, 0, true));
        Checks.outside("cut(0, 6, true)", () -> x.cut(0, 6, true));
        Checks.refused("leave(1)", () -> x.leave(1));
        Checks.refused("back(0)", () -> x.back(0));
        Checks.wrong("set(41)", () -> x.set(41));
        Checks.wrong("ticks(61)", () -> x.ticks(61));
        Checks.same("the club behind refused calls", Checks.all(x), before);
        Checks.due("no refused call is remembered", x.undo(), 0);
    }
}
