/** The bounds that promises 1 to 5, and "TEXT" in the terms, name. */
final class BoundsOfText {
    private static final String DIGITS = "0123456789";
    private static final String LETTERS = "mscxgbpt";

    private BoundsOfText() {
    }

    static void run() {
        aNewObject();
        appendFrom0To255();
        appendUpTo120();
        appendNamesTheCharacterFirst();
        clearTextOfNoneAndOf120();
        errorOfTheEmptyAndTheFullText();
        errorAtTheFirstCharacterThatIsNotAllowed();
        errorOfTextsThatEndTooSoon();
        noBlanks();
        theLetters();
        theMembers();
        thePlaces();
        theSets();
        thePatience();
        theTicks();
        loadOfNoCommandAndOfMost();
        loadLeavesOutWhatWouldThrow();
        loadStartsAsANewObject();
        loadKeepsTheText();
        loadRefuses();
    }

    private static ClubRolls text(String text) {
        return Checks.write(new ClubRolls(), text);
    }

    private static void error(String text, int due) {
        Checks.due("errorPosition() of '" + text + "'", text(text).errorPosition(), due);
    }

    private static void good(String text) {
        error(text, Bounds.NONE);
    }

    /** Of all characters, only those at the end of the text are allowed; then it goes on, or is a club. */
    private static void onlyAllowed(String text, String allowed, boolean isClubThen) {
        for (int c = 0; c <= 255; c++) {
            int at = text.length();
            boolean isAllowed = allowed.indexOf(c) >= 0;
            error(text + (char) c, isAllowed ? isClubThen ? Bounds.NONE : at + 1 : at);
        }
    }

    private static void aNewObject() {
        Document.promise(1, "ClubRolls(): Creates a club without members.");
        for (int what = 0; what <= 9; what++) {
            Bounds.about(new ClubRolls(), "a new object", what, 0);
        }
        Checks.due("together() of a new object", new ClubRolls().together(), 0);
        Checks.due("clearText() of a new object", new ClubRolls().clearText(), 0);
        Checks.due("errorPosition() of a new object", new ClubRolls().errorPosition(), 0);
        Checks.due("save(1) of a new object", new ClubRolls().save(1), 0);
        Checks.due("the first member", new ClubRolls().member(0), 0);
        Bounds.refuses(Bounds.OUTSIDE, Bounds::fresh, "memberOf(0, 0) of a new object", x -> x.memberOf(0, 0));
        Bounds.refuses(Bounds.OUTSIDE, Bounds::fresh, "session(0, 0, 0) of a new object", x -> x.session(0, 0, 0));
        Bounds.refuses(Bounds.OUTSIDE, Bounds::fresh, "note(0, 0) of a new object", x -> x.note(0, 0));
        Bounds.refuses(Bounds.REFUSED, Bounds::fresh, "undo() of a new object", x -> x.undo());
        Bounds.refuses(Bounds.REFUSED, Bounds::fresh, "restore(0) of a new object", x -> x.restore(0));
        Bounds.refuses(Bounds.REFUSED, Bounds::fresh, "restore(1) of a new object", x -> x.restore(1));
        Bounds.refuses(Bounds.REFUSED, Bounds::fresh, "load() of a new object", x -> x.load());
    }

    private static void appendFrom0To255() {
        Document.promise(2, "c: character code, 0 to 255", "Throws IllegalArgumentException if c is out of range");
        Checks.due("append(0)", new ClubRolls().append(0), 1);
        Checks.due("append(255)", new ClubRolls().append(255), 1);
        int[] out = {-1, 256, Bounds.MIN, Bounds.MAX, 'R' - 256, 'R' + 256, 'R' + 65536};
        for (int c : out) {
            Bounds.refuses(Bounds.WRONG, Bounds::fresh, "append(" + c + ")", x -> x.append(c));
            Bounds.refuses(Bounds.WRONG, Bounds::busy, "append(" + c + ")", x -> x.append(c));
        }
    }

    private static void appendUpTo120() {
        Document.terms("The object has a text buffer of at most 120 characters.");
        Document.promise(2, "Appends a character to the text buffer.", "Returns the new length of the text.",
            "Throws IllegalStateException if the text already has 120 characters");
        ClubRolls x = new ClubRolls();
        Checks.due("append('R')", x.append('R'), 1);
        for (int length = 2; length <= 120; length++) {
            Checks.due("append of the character " + length, x.append("m0".charAt(length % 2)), length);
        }
        for (int c = 0; c <= 255; c++) {
            int more = c;
            Checks.refused("append(" + c + ") to 120", () -> x.append(more));
        }
        Checks.due("clearText()", x.clearText(), 120);
        Bounds.refuses(Bounds.REFUSED, () -> text("R" + "m0".repeat(58) + "t01"), "append('0') to 120", y -> y.append('0'));
        Bounds.refuses(Bounds.REFUSED, Bounds.behind(() -> text("R" + "m0".repeat(59)), y -> y.append('t')),
            "append('0') to 119 and one", y -> y.append('0'));
    }

    private static void appendNamesTheCharacterFirst() {
        Bounds.refuses(Bounds.WRONG, () -> text("R".repeat(120)), "append(-1) to 120", x -> x.append(-1));
        Bounds.refuses(Bounds.WRONG, () -> text("R".repeat(120)), "append(256) to 120", x -> x.append(256));
        Bounds.refuses(Bounds.REFUSED, () -> text("R".repeat(120)), "append(255) to 120", x -> x.append(255));
    }

    private static void clearTextOfNoneAndOf120() {
        Document.promise(3, "Empties the text buffer.", "Returns the previous length of the text.");
        Checks.due("clearText() of no text", new ClubRolls().clearText(), 0);
        ClubRolls x = text("R".repeat(120));
        Checks.due("clearText() of 120", x.clearText(), 120);
        Checks.due("clearText() again", x.clearText(), 0);
        Checks.due("errorPosition() of the empty text", x.errorPosition(), 0);
        Checks.due("append() behind it", x.append('R'), 1);
        Checks.due("nothing is left of the text", x.errorPosition(), Bounds.NONE);
        Checks.due("clearText() of 1", x.clearText(), 1);
    }

    private static void errorOfTheEmptyAndTheFullText() {
        Document.terms("A club as a text is the letter R, and then any number of commands;");
        Document.promise(4, "Checks the text.", "Returns the error position of the text;", "NONE if it is a club.");
        good("R");
        error("", 0);
        good("R" + "m0".repeat(58) + "t01");
        good("R" + "m0".repeat(58) + "m9");
        error("R" + "m0".repeat(58) + "t00", 119);
        error("R" + "m0".repeat(58) + "t0", 119);
        error("R" + "m0".repeat(59) + "m", 120);
        error("R" + "m0".repeat(59) + "r", 119);
        error("R" + "m0".repeat(58) + "c06", 120);
        error("r" + "m0".repeat(59), 0);
    }

    private static void errorAtTheFirstCharacterThatIsNotAllowed() {
        Document.terms("The text is read from left to right.", "The error position is the index of the first character"
            + " that these rules do not allow at its place (a digit is not allowed if no number that is allowed begins"
            + " with it and those before it);");
        onlyAllowed("", "R", true);
        error("Rs6s7t99", 2);
        error("Rs0s7t99", 4);
        error("Rs0s1t99", 6);
        error("Rs0s1t69", 7);
        error("RR", 1);
        error("Rm0R", 3);
        error("Rm0Rm0", 3);
    }

    private static void errorOfTextsThatEndTooSoon() {
        Document.terms("if the text ends too soon, it is the length of the text.");
        error("", 0);
        String[] commands = {"m0", "s5", "c563", "x05", "g0", "b0", "p40", "t60"};
        for (String command : commands) {
            for (int length = 1; length < command.length(); length++) {
                error("R" + command.substring(0, length), 1 + length);
                error("Rm0" + command.substring(0, length), 3 + length);
            }
            good("R" + command);
            good("Rm0" + command + command);
        }
    }

    private static void noBlanks() {
        Document.terms("There are no blanks.");
        error(" R", 0);
        error("R ", 1);
        error("Rm 0", 2);
        error("Rm0 ", 3);
        error("Rc0 63", 3);
        error("Rc06 3", 4);
        error("Rm0\n", 3);
    }

    private static void theLetters() {
        onlyAllowed("R", LETTERS, false);
        onlyAllowed("Rm0", LETTERS, false);
    }

    private static void theMembers() {
        Document.terms("a member is a digit (0 to 5)", "s and a member: say();", "g and a member: leave();",
            "b and a member: back();", "x and two members: cut(), cut;");
        onlyAllowed("Rs", "012345", true);
        onlyAllowed("Rg", "012345", true);
        onlyAllowed("Rb", "012345", true);
        onlyAllowed("Rx", "012345", false);
        onlyAllowed("Rx0", "012345", true);
        onlyAllowed("Rx5", "012345", true);
        onlyAllowed("Rc", "012345", false);
    }

    private static void thePlaces() {
        Document.terms("m and a digit for a place (0 to 9): member();");
        onlyAllowed("Rm", DIGITS, true);
    }

    private static void theSets() {
        Document.terms("c, a member, and two digits for a set (01 to 63): call();");
        onlyAllowed("Rc5", "0123456", false);
        onlyAllowed("Rc00", "123456789", true);
        onlyAllowed("Rc01", DIGITS, true);
        onlyAllowed("Rc05", DIGITS, true);
        onlyAllowed("Rc06", "0123", true);
    }

    private static void thePatience() {
        Document.terms("p and two digits (00 to 40): set();");
        onlyAllowed("Rp", "01234", false);
        onlyAllowed("Rp0", DIGITS, true);
        onlyAllowed("Rp3", DIGITS, true);
        onlyAllowed("Rp4", "0", true);
        Bounds.about(Checks.club("p07p00"), "p00", 9, 0);
        Bounds.about(Checks.club("p40"), "p40", 9, 40);
    }

    private static void theTicks() {
        Document.terms("t and two digits (01 to 60): ticks().");
        onlyAllowed("Rt", "0123456", false);
        onlyAllowed("Rt0", "123456789", true);
        onlyAllowed("Rt1", DIGITS, true);
        onlyAllowed("Rt5", DIGITS, true);
        onlyAllowed("Rt6", "0", true);
        Bounds.about(Checks.club("t01"), "t01", 1, 1);
        Bounds.about(Checks.club("t60"), "t60", 1, 60);
    }

    private static void loadOfNoCommandAndOfMost() {
        Document.promise(5, "Returns the number of commands that are left out.");
        Checks.due("load() of R", text("R").load(), 0);
        Checks.due("load() of 59 commands, all left out", text("R" + "s0".repeat(59)).load(), 59);
        Checks.due("load() of 59 commands, none left out", text("Rm0" + "g0b0".repeat(29)).load(), 0);
        ClubRolls x = text("R" + "m0".repeat(58) + "t60");
        Checks.due("load() of 120 characters", x.load(), 52);
        Bounds.about(x, "the last command", 1, 60);
        Bounds.about(x, "the members", 0, 6);
    }

    /** Of each command: one that would not throw, and one for each exception of its method that a text can ask for. */
    private static void loadLeavesOutWhatWouldThrow() {
        Document.terms("Commands that would throw an exception are left out.");
        String[][] pairs = {{"m0m0m0m0m0m0", "m0"}, {"m0s0s0s0s0", "s0"}, {"m0", "s1"}, {"m0g0", "s0"},
            {"m0m0c003", "s0"}, {"m0", "c101"}, {"m0", "c002"}, {"m0", "c003"}, {"m0g0", "c001"}, {"m0m0", "x02"},
            {"m0m0", "x20"}, {"m0", "x00"}, {"m0", "g1"}, {"m0g0", "g0"}, {"m0", "b1"}, {"m0", "b0"},
            {"m0m0c003", "b0"}};
        for (String[] pair : pairs) {
            ClubRolls x = text("R" + pair[0] + pair[1] + pair[1]);
            Checks.due("load() of " + pair[0] + " and twice " + pair[1], x.load(), 2);
            Checks.same(pair[1] + " changes nothing", Bounds.told(x), Bounds.told(Checks.club(pair[0])));
        }
        String[] good = {"m0m0m0m0m0m9", "m0s0s0s0s0", "m0c001", "m0m0m0m0m0m0c563", "m0m0x01x10", "m0g0b0g0", "p00p40"};
        for (String commands : good) {
            Checks.due("load() of " + commands, text("R" + commands).load(), 0);
        }
    }

    private static void loadStartsAsANewObject() {
        Document.promise(5, "Makes everything as in a new object, and then does the commands of the text.",
            "Behind it no state is remembered, and both save slots are empty.");
        String[] texts = {"R", "Rm0", "Rm0m0m0c007t01x01t01t01s2s2t01m9s3s3s3s3m3g4p30", "Rs0m0t60"};
        for (String some : texts) {
            ClubRolls x = Bounds.busy();
            x.save(1);
            Checks.write(x, some).load();
            ClubRolls y = text(some);
            y.load();
            Checks.same("load() of " + some + " behind much", Bounds.traceOf(x), Bounds.traceOf(y));
        }
        ClubRolls x = Bounds.busy();
        x.save(1);
        Checks.write(x, "Rm0t05").load();
        Checks.refused("undo() behind load()", x::undo);
        Checks.refused("restore(0) behind load()", () -> x.restore(0));
        Checks.refused("restore(1) behind load()", () -> x.restore(1));
        x.say(0);
        Checks.due("undo() goes back to what load() made", x.undo(), 0);
        Bounds.about(x, "what load() made", 1, 5);
    }

    private static void loadKeepsTheText() {
        Document.promise(5, "Keeps the text, also if it throws the exception.");
        ClubRolls x = text("Rm0s0");
        x.load();
        x.load();
        Checks.due("load() of the same text again, one more command", x.append('t') + x.append('0') + x.append('9'), 21);
        Checks.due("load()", x.load(), 0);
        Bounds.about(x, "the time then", 1, 9);
        x.append('t');
        Checks.refused("load() of no club", x::load);
        Checks.due("append() behind it", x.append('6'), 10);
        Checks.refused("load() of no club", x::load);
        Checks.due("append() behind it", x.append('0'), 11);
        Checks.due("load() of a club", x.load(), 0);
        Bounds.about(x, "the time then", 1, 69);
        Checks.due("clearText()", x.clearText(), 11);
    }

    private static void loadRefuses() {
        Document.promise(5, "Throws IllegalStateException if the text is not a club");
        String[] none = {"", "r", "Rm", "RR", "Rm0 ", "Rc000", "Rc064", "Rp41", "Rt00", "Rt61", "Rs6", "R" + "m0".repeat(59) + "m"};
        for (String some : none) {
            Bounds.refuses(Bounds.REFUSED, () -> Checks.write(Bounds.busy(), some), "load() of " + some, x -> x.load());
        }
    }
}
