/** Promises 26 and 27: save and restore. */
public final class SlotsTest {
    private static final int MIN = Integer.MIN_VALUE;
    private static final int MAX = Integer.MAX_VALUE;

    private SlotsTest() {
    }

    public static void main(String[] args) {
        saveTellsTheTime();
        saveIsNoAction();
        saveRefuses();
        restoreBringsEverythingBack();
        restoreBringsBackWhatIsHidden();
        restoreForgetsWhatIsRemembered();
        slotsKeepWhatTheyHave();
        slotsAreEmptyBehindLoad();
        restoreRefuses();
        Checks.end("SlotsTest");
    }

    private static void saveTellsTheTime() {
        ClubRolls x = new ClubRolls();
        Checks.due("save(0)", x.save(0), 0);
        x.ticks(7);
        Checks.due("save(1)", x.save(1), 7);
        x.ticks(60);
        Checks.due("save(1)", x.save(1), 67);
        Checks.due("restore(1)", x.restore(1), 67);
        Checks.due("restore(0)", x.restore(0), 0);
        Checks.due("the time then", x.about(1), 0);
    }

    private static void saveIsNoAction() {
        ClubRolls x = Checks.club("m0");
        x.say(0);
        x.ticks(1);
        x.save(0);
        x.save(1);
        Checks.due("undo", x.undo(), 1);
        Checks.due("the time then", x.about(1), 0);
        Checks.due("undo takes no save back", x.restore(0), 1);
    }

    private static void saveRefuses() {
        ClubRolls x = Checks.club("m0");
        int[] slots = {-1, 2, MIN, MAX};
        for (int slot : slots) {
            Checks.outside("save(" + slot + ")", () -> x.save(slot));
        }
        Checks.refused("restore(0) behind a refused save", () -> x.restore(0));
        Checks.refused("restore(1) behind a refused save", () -> x.restore(1));
    }

    private static void restoreBringsEverythingBack() {
        String busy = "m0m2m3m9s0s1c207x03t04p05g3x01";
        ClubRolls x = Checks.club(busy);
        String before = Checks.all(x);
        x.save(1);
        x.ticks(60);
        x.back(3);
        x.member(5);
        x.say(3);
        x.set(0);
        x.cut(0, 1, false);
        x.cut(1, 2, true);
        x.call(2, 31);
        x.leave(0);
        Checks.due("restore(1)", x.restore(1), 4);
        Checks.same("the club behind restore", Checks.all(x), before);
        Checks.same("as it was loaded", before, Checks.all(Checks.club(busy)));
        Checks.due("a member that is added then is a new one", x.member(7), 4);
        Checks.due("at its place", x.memberOf(4, 0), 7);
        Checks.due("in its own roll", x.memberOf(4, 3) * 10 + x.memberOf(4, 11), 40);
        Checks.write(x, "Rm");
        x.restore(1);
        Checks.due("the text is no part of the state", x.clearText(), 2);
    }

    /** What no method tells (answers, since when a roll is called, what is kept) comes back as well. */
    private static void restoreBringsBackWhatIsHidden() {
        String club = "m0m0m3s0s1c007p05t03";
        ClubRolls x = Checks.club(club);
        ClubRolls y = Checks.club(club);
        x.save(0);
        x.call(0, 3);
        x.ticks(60);
        x.restore(0);
        for (int i = 0; i < 20; i++) {
            Checks.due("the ticks go on as if nothing was done", x.ticks(1), y.ticks(1));
            Checks.same("tick " + i, Checks.all(x), Checks.all(y));
        }
    }

    private static void restoreForgetsWhatIsRemembered() {
        ClubRolls x = Checks.club("m0");
        x.ticks(1);
        x.save(0);
        x.ticks(1);
        x.ticks(1);
        x.restore(0);
        Checks.refused("undo behind restore, which is no action", x::undo);
        x.ticks(5);
        Checks.due("undo of the first action behind restore", x.undo(), 0);
        Checks.due("the time then", x.about(1), 1);
    }

    private static void slotsKeepWhatTheyHave() {
        ClubRolls x = Checks.club("m0");
        x.save(0);
        x.say(0);
        x.save(1);
        x.say(0);
        for (int i = 0; i < 3; i++) {
            Checks.due("restore(0)", x.restore(0), 0);
            Checks.due("the speeches then", x.about(4), 0);
            x.call(0, 1);
            x.ticks(9);
            Checks.due("restore(1)", x.restore(1), 0);
            Checks.due("the speeches then", x.about(4), 1);
            x.say(0);
            x.undo();
            x.say(0);
        }
        x.save(0);
        x.restore(1);
        x.restore(0);
        Checks.due("the latest one that was saved", x.about(4), 2);
        ClubRolls other = new ClubRolls();
        Checks.refused("restore(0) of another object", () -> other.restore(0));
    }

    private static void slotsAreEmptyBehindLoad() {
        ClubRolls x = Checks.club("m0");
        x.save(0);
        x.save(1);
        Checks.write(x, "Rm1x");
        Checks.refused("load of no club", x::load);
        Checks.due("restore(0) behind it", x.restore(0), 0);
        Checks.write(x, "Rm1m2");
        x.load();
        Checks.refused("restore(0) behind load", () -> x.restore(0));
        Checks.refused("restore(1) behind load", () -> x.restore(1));
        x.save(1);
        Checks.refused("restore(0), as only 1 is saved", () -> x.restore(0));
        x.member(3);
        x.restore(1);
        Checks.due("the members then", x.about(0), 2);
    }

    private static void restoreRefuses() {
        ClubRolls x = Checks.club("m0");
        x.ticks(1);
        int[] slots = {-1, 2, MIN, MAX};
        for (int slot : slots) {
            Checks.outside("restore(" + slot + ")", () -> x.restore(slot));
        }
        Checks.refused("restore(0)", () -> x.restore(0));
        x.save(0);
        Checks.refused("restore(1)", () -> x.restore(1));
        Checks.due("a refused restore forgets nothing", x.undo(), 0);
    }
}
