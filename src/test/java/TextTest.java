/** Promises 1 to 5: a new object, append, clearText, errorPosition, load. */
public final class TextTest {
    private TextTest() {
    }

    public static void main(String[] args) {
        aNewObjectIsEmpty();
        appendTakesCharacters();
        appendRefuses();
        clearTextTellsTheLength();
        errorsOfShortTexts();
        errorsOfMembers();
        errorsOfNumbers();
        errorsAtEachSign();
        errorsOfLongTexts();
        loadDoesEachCommand();
        loadCountsWhatIsLeftOut();
        loadStartsAnew();
        loadRefusesWhatIsNoClub();
        Checks.end("TextTest");
    }

    private static void aNewObjectIsEmpty() {
        ClubRolls x = new ClubRolls();
        for (int what = 0; what <= 9; what++) {
            Checks.due("about(" + what + ") of a new object", x.about(what), 0);
        }
        Checks.due("together() of a new object", x.together(), 0);
        Checks.due("errorPosition() of a new object", x.errorPosition(), 0);
        Checks.due("clearText() of a new object", x.clearText(), 0);
        Checks.due("a script of one tick without members", new ClubRolls().runScript(1, 50001), ClubRolls.NONE);
        Checks.outside("memberOf(0, 0) of a new object", () -> x.memberOf(0, 0));
        Checks.outside("note(0, 0) of a new object", () -> x.note(0, 0));
        Checks.refused("undo() of a new object", x::undo);
        Checks.refused("restore(0) of a new object", () -> x.restore(0));
        Checks.refused("restore(1) of a new object", () -> x.restore(1));
    }

    private static void appendTakesCharacters() {
        ClubRolls x = new ClubRolls();
        Checks.due("append(0)", x.append(0), 1);
        Checks.due("append(255)", x.append(255), 2);
        Checks.due("append('R')", x.append('R'), 3);
        for (int i = 4; i <= 120; i++) {
            Checks.due("append, the sign " + i, x.append('0'), i);
        }
        Checks.due("length", x.clearText(), 120);
    }

    private static void appendRefuses() {
        ClubRolls x = new ClubRolls();
        int[] out = {-1, 256, Integer.MIN_VALUE, Integer.MAX_VALUE, 'R' + 256};
        for (int c : out) {
            Checks.wrong("append(" + c + ")", () -> x.append(c));
        }
        Checks.due("length behind refused signs", x.clearText(), 0);
        Checks.write(x, "R" + "m0".repeat(59) + "m");
        Checks.refused("append to 120", () -> x.append('0'));
        Checks.wrong("append(256) to 120: the argument is named first", () -> x.append(256));
        Checks.wrong("append(-1) to 120: the argument is named first", () -> x.append(-1));
        Checks.due("errorPosition behind a refused append", x.errorPosition(), 120);
        Checks.due("length behind a refused append", x.clearText(), 120);
        Checks.due("append behind clearText", x.append('R'), 1);
    }

    private static void clearTextTellsTheLength() {
        ClubRolls x = Checks.club("m0m1");
        Checks.due("clearText of Rm0m1", x.clearText(), 5);
        Checks.due("clearText of nothing", x.clearText(), 0);
        Checks.due("errorPosition of nothing", x.errorPosition(), 0);
        Checks.due("the club stays", x.about(0), 2);
        Checks.due("append", x.append('R'), 1);
        Checks.due("errorPosition of R", x.errorPosition(), ClubRolls.NONE);
    }

    private static void error(String text, int due) {
        Checks.due("errorPosition of '" + text + "'", Checks.write(new ClubRolls(), text).errorPosition(), due);
    }

    private static void good(String... texts) {
        for (String text : texts) {
            error(text, ClubRolls.NONE);
        }
    }

    private static void errorsOfShortTexts() {
        good("R", "Rm0", "Rm9m0m5", "Rs0", "Rg0b0", "Rm0s0c001x01g0b0p00t01");
        error("", 0);
        error("r", 0);
        error(" R", 0);
        error("m0", 0);
        error("RR", 1);
        error("R ", 1);
        error("R0", 1);
        error("RM0", 1);
        error("Rm0 m1", 3);
        error("Rm00", 3);
        error("Rq!m", 1);
        error("Rm0t01s0x", 9);
        error("Rm0t01s0xm", 9);
    }

    private static void errorsOfMembers() {
        good("Rs5", "Rg5", "Rb5", "Rx05", "Rx50", "Rx33", "Rc563");
        error("Rs6", 2);
        error("Rg6", 2);
        error("Rb6", 2);
        error("Rc6", 2);
        error("Rx6", 2);
        error("Rx06", 3);
        error("Rm", 2);
        error("Rs", 2);
        error("Rg", 2);
        error("Rb", 2);
        error("Rx", 2);
        error("Rx0", 3);
        error("Rc", 2);
        error("Rc0", 3);
        error("Rss", 2);
        error("Rx0s", 3);
    }

    private static void errorsOfNumbers() {
        good("Rc001", "Rc009", "Rc010", "Rc059", "Rc060", "Rc063");
        error("Rc00", 4);
        error("Rc000", 4);
        error("Rc06", 4);
        error("Rc064", 4);
        error("Rc069", 4);
        error("Rc07", 3);
        error("Rc09", 3);
        error("Rc0s", 3);
        error("Rc00s", 4);
        good("Rp00", "Rp09", "Rp39", "Rp40");
        error("Rp", 2);
        error("Rp0", 3);
        error("Rp4", 3);
        error("Rp41", 3);
        error("Rp49", 3);
        error("Rp5", 2);
        error("Rp9", 2);
        good("Rt01", "Rt09", "Rt10", "Rt59", "Rt60");
        error("Rt", 2);
        error("Rt0", 3);
        error("Rt00", 3);
        error("Rt6", 3);
        error("Rt61", 3);
        error("Rt7", 2);
        error("Rt0m", 3);
    }

    private static void errorsAtEachSign() {
        for (int c = 0; c <= 255; c++) {
            String sign = "" + (char) c;
            error(sign, c == 'R' ? ClubRolls.NONE : 0);
            error("R" + sign, "mscxgbpt".contains(sign) ? 2 : 1);
            error("Rm" + sign, "0123456789".contains(sign) ? ClubRolls.NONE : 2);
            error("Rs" + sign, "012345".contains(sign) ? ClubRolls.NONE : 2);
            error("Rc" + sign, "012345".contains(sign) ? 3 : 2);
            error("Rc2" + sign, "0123456".contains(sign) ? 4 : 3);
            error("Rc26" + sign, "0123".contains(sign) ? ClubRolls.NONE : 4);
            error("Rp" + sign, "01234".contains(sign) ? 3 : 2);
            error("Rp3" + sign, "0123456789".contains(sign) ? ClubRolls.NONE : 3);
            error("Rt" + sign, "0123456".contains(sign) ? 3 : 2);
        }
    }

    private static void errorsOfLongTexts() {
        good("R" + "m0".repeat(58) + "t01");
        good("R" + "c063".repeat(29) + "x01");
        error("R" + "m0".repeat(59) + "m", 120);
        error("R" + "c063".repeat(29) + "c06", 120);
        error("R" + "m0".repeat(58) + "t00", 119);
    }

    private static void loadDoesEachCommand() {
        ClubRolls x = Checks.club("m0m2m9s1c103x02p07t02g2b2g2");
        ClubRolls y = new ClubRolls();
        y.member(0);
        y.member(2);
        y.member(9);
        y.say(1);
        y.call(1, 3);
        y.cut(0, 2, true);
        y.set(7);
        y.ticks(2);
        y.leave(2);
        y.back(2);
        y.leave(2);
        Checks.same("a club that is loaded", Checks.all(x), Checks.all(y));
        Checks.due("the cut way", x.isCut(0, 2), 1);
        Checks.due("the patience", x.about(9), 7);
        Checks.due("the time", x.about(1), 2);
        Checks.due("the one who is gone", x.about(8), 4);
        Checks.due("the time of the longest wait", Checks.club("t60t60t10").about(1), 130);
        Checks.due("the greatest patience", Checks.club("p40").about(9), 40);
    }

    private static void leftOut(String text, int due) {
        Checks.due("load of " + text, Checks.write(new ClubRolls(), text).load(), due);
    }

    private static void loadCountsWhatIsLeftOut() {
        leftOut("R", 0);
        leftOut("Rm0m1m2m3m4m5", 0);
        leftOut("Rm0m1m2m3m4m5m6m7", 2);
        leftOut("Rs0m0g5b0x00c002", 5);
        leftOut("Rm0s0s0s0s0s0", 1);
        leftOut("Rm0c001s0", 0);
        leftOut("Rm0m0c003s0", 1);
        leftOut("Rm0m0c007", 1);
        leftOut("Rm0g0g0s0c001b0b0", 4);
        leftOut("Rm0m0x01x01x10x02", 1);
        leftOut("Rp40p00t60t01", 0);
    }

    private static void loadStartsAnew() {
        ClubRolls x = new ClubRolls();
        x.member(3);
        x.set(9);
        x.ticks(5);
        x.save(0);
        x.save(1);
        Checks.write(x, "Rm4s0");
        Checks.due("load", x.load(), 0);
        Checks.same("the club is that of the text alone", Checks.all(x), Checks.all(Checks.club("m4s0")));
        Checks.refused("undo behind load", x::undo);
        Checks.refused("restore(0) behind load", () -> x.restore(0));
        Checks.refused("restore(1) behind load", () -> x.restore(1));
        Checks.due("load is done again", x.load(), 0);
        Checks.due("the members then", x.about(0), 1);
        Checks.due("the first action behind load can be undone", x.say(0), 1);
        Checks.due("undo of it", x.undo(), 0);
        Checks.due("the text is kept", x.clearText(), 5);
        Checks.write(x, "R").load();
        Checks.same("R is a club without members", Checks.all(x), Checks.all(new ClubRolls()));
        Checks.due("a first member is in its own roll as at first", x.member(0) + x.memberOf(0, 6), 0);
    }

    private static void loadRefusesWhatIsNoClub() {
        ClubRolls x = new ClubRolls();
        Checks.refused("load of nothing", x::load);
        x.member(3);
        x.save(1);
        x.ticks(2);
        String before = Checks.all(x);
        Checks.write(x, "Rm0m");
        Checks.refused("load of Rm0m", x::load);
        Checks.same("the club behind a refused load", Checks.all(x), before);
        Checks.due("the text is kept", x.errorPosition(), 4);
        Checks.due("its length is kept", x.append('1'), 5);
        Checks.due("what is remembered is kept", x.undo(), 1);
        Checks.due("the slot is kept", x.restore(1), 0);
        Checks.due("load of Rm0m1", x.load(), 0);
    }
}
