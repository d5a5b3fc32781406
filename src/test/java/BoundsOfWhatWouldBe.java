/** The bounds that promises 20 to 23 name: standsIn, compare, lacks, together. */
final class BoundsOfWhatWouldBe {
    private static final int[] NO_MEMBERS = {-1, 6, Bounds.MIN, Bounds.MAX};
    private static final int[] NEITHER_0_NOR_1 = {-1, 2, Bounds.MIN, Bounds.MAX};

    private BoundsOfWhatWouldBe() {
    }

    static void run() {
        standsInFrom0To30();
        standsInNever();
        standsInOutOfPatience();
        standsInByOneWhoIsGone();
        standsInOfWhatIsNoMember();
        standsInOfWrongArguments();
        compareOfNoneAndOfFive();
        compareOfUnlikeSets();
        compareOfWhatIsNoMember();
        compareNeither0Nor1();
        lacksOfNoneAndOf20();
        lacksOfThoseWhoAreInTheRollNow();
        lacksOfWhatIsNoMember();
        togetherOfNoneAndOfAll();
        togetherOfSeveral();
        nothingIsChanged();
    }

    private static void stands(ClubRolls x, String when, int m, int set, int stands, int all) {
        Checks.due(when + ": standsIn(" + m + ", " + set + ", 0)", x.standsIn(m, set, 0), stands);
        Checks.due(when + ": standsIn(" + m + ", " + set + ", 1)", x.standsIn(m, set, 1), all);
    }

    /** A way takes 10 ticks at most: so a roll stands in 20, and all sit in it in 30, or never; 100 is beyond all calls. */
    private static void standsInFrom0To30() {
        Document.promise(20, "what: 0: behind how many ticks the roll that is called stands, 0 to 100; 1: behind how many"
            + " ticks all of its members sit in it, 0 to 100", "Tells when a roll would stand.", "Returns that number, if m"
            + " called it now and nothing else was done;");
        stands(Checks.club("m0"), "alone", 0, 1, 0, 0);
        for (int place = 0; place <= 9; place++) {
            ClubRolls x = Checks.club("m0m" + place + "t60");
            int way = place + 1;
            stands(x, "by a way of " + way, 0, 3, 2 * way, 3 * way);
            stands(x, "by a way of " + way, 1, 3, 2 * way, 3 * way);
            Checks.due("no roll is called", x.memberOf(0, 8) + x.memberOf(1, 8), 0);
            x.call(1, 3);
            Checks.due("ticks, 1 fewer than it was told", x.ticks(2 * way - 1), 0);
            Checks.due("the tick that was told", x.ticks(1), 1);
            stands(x, "behind a roll that stood", 1, 3, 2 * way, 3 * way);
        }
        stands(Checks.club("m0m9m0m4m5m9"), "all", 0, 63, 20, 30);
        stands(Checks.club("m0m9m0m4m5m9"), "the last one", 5, 32, 0, 0);
    }

    private static void standsInNever() {
        Document.promise(20, "NONE if it does not by then (also if the patience is over ahead of that), or m is gone.");
        stands(Checks.club("m0m0x01"), "a way that is cut", 0, 3, Bounds.NONE, Bounds.NONE);
        stands(Checks.club("m0m0g1"), "one who is gone", 0, 3, Bounds.NONE, Bounds.NONE);
        stands(Checks.club("m0m0c102"), "a promise that is not less", 0, 3, Bounds.NONE, Bounds.NONE);
        stands(Checks.club("m0m0c102c001"), "a promise that is less", 0, 3, 2, 3);
        ClubRolls x = Bounds.notes149();
        stands(x, "149 notes ahead of it", 0, 3, 20, 30);
        stands(x, "149 notes ahead of two", 0, 7, Bounds.NONE, Bounds.NONE);
        x.call(0, 3);
        stands(x, "150 notes ahead of it", 0, 3, Bounds.NONE, Bounds.NONE);
        stands(x, "150 notes ahead of none", 0, 1, 0, 0);
        x = Checks.club("m0m5m9c001c003");
        stands(x, "it stands, and not all come to sit in it", 2, 6, 10, Bounds.NONE);
    }

    private static void standsInOutOfPatience() {
        int[] patience = {0, 1, 19, 20, 21, 40};
        for (int ticks : patience) {
            ClubRolls x = Checks.club("m0m9");
            x.set(ticks);
            boolean isOver = ticks > 0 && ticks < 20;
            stands(x, "with the patience " + ticks, 0, 3, isOver ? Bounds.NONE : 20, isOver ? Bounds.NONE : 30);
            stands(x, "alone with the patience " + ticks, 0, 1, 0, 0);
        }
        stands(Checks.club("m0m0p01"), "with the patience 1", 0, 3, Bounds.NONE, Bounds.NONE);
        stands(Checks.club("m0m0p02"), "with the patience 2", 0, 3, 2, 3);
        stands(Checks.club("m0m0p02x01c003t01"), "since it would be called now", 1, 2, 0, 0);
        stands(Checks.club("m0m0m0p02x01c003t01"), "since it would be called now", 0, 5, 2, 3);
    }

    private static void standsInByOneWhoIsGone() {
        Bounds.tells(Bounds::busy, "standsIn(4, 16, 0), who is gone", x -> x.standsIn(4, 16, 0), Bounds.NONE);
        Bounds.tells(Bounds::busy, "standsIn(4, 63, 1), who is gone", x -> x.standsIn(4, 63, 1), Bounds.NONE);
        Bounds.tells(Bounds.behind(Bounds::busy, x -> x.back(4)), "standsIn(4, 16, 1), who is back",
            x -> x.standsIn(4, 16, 1), 0);
    }

    private static void standsInOfWhatIsNoMember() {
        Document.promise(20, "m: member", "Throws IndexOutOfBoundsException if there is no such member");
        for (int m : NO_MEMBERS) {
            Bounds.refuses(Bounds.OUTSIDE, Bounds::busy, "standsIn(" + m + ", 63, 0)", x -> x.standsIn(m, 63, 0));
            Bounds.refuses(Bounds.OUTSIDE, Bounds::busy, "standsIn(" + m + ", 64, 0)", x -> x.standsIn(m, 64, 0));
            Bounds.refuses(Bounds.OUTSIDE, Bounds::busy, "standsIn(" + m + ", 63, 2)", x -> x.standsIn(m, 63, 2));
        }
        Bounds.refuses(Bounds.OUTSIDE, Bounds::fresh, "standsIn(0, 1, 0) of none", x -> x.standsIn(0, 1, 0));
    }

    private static void standsInOfWrongArguments() {
        Document.promise(20, "set: the members of the roll, m among them",
            "Throws IllegalArgumentException if what is out of range, or set is not as for call()");
        for (int what : NEITHER_0_NOR_1) {
            Bounds.refuses(Bounds.WRONG, Bounds::busy, "standsIn(0, 1, " + what + ")", x -> x.standsIn(0, 1, what));
            Bounds.refuses(Bounds.WRONG, Bounds::busy, "standsIn(4, 16, " + what + "), who is gone",
                x -> x.standsIn(4, 16, what));
        }
        int[] sets = {0, 62, 64, 65, -1, Bounds.MIN, Bounds.MIN + 1, Bounds.MAX};
        for (int set : sets) {
            Bounds.refuses(Bounds.WRONG, Bounds::busy, "standsIn(0, " + set + ", 0)", x -> x.standsIn(0, set, 0));
            Bounds.refuses(Bounds.WRONG, Bounds::busy, "standsIn(0, " + set + ", 1)", x -> x.standsIn(0, set, 1));
        }
        Bounds.refuses(Bounds.WRONG, Bounds::busy, "standsIn(4, 47, 0), who is gone", x -> x.standsIn(4, 47, 0));
        Bounds.refuses(Bounds.WRONG, Bounds::busy, "standsIn(4, 80, 1), who is gone", x -> x.standsIn(4, 80, 1));
        Checks.due("standsIn(0, 1, 0) of one", Checks.club("m0").standsIn(0, 1, 0), 0);
        Bounds.refuses(Bounds.WRONG, () -> Checks.club("m0"), "standsIn(0, 3, 0) of one", x -> x.standsIn(0, 3, 0));
    }

    private static void compares(ClubRolls x, String when, int shared, int unlike) {
        Checks.due(when + ": compare(0, 1, 0)", x.compare(0, 1, 0), shared);
        Checks.due(when + ": compare(1, 0, 0)", x.compare(1, 0, 0), shared);
        Checks.due(when + ": compare(0, 1, 1)", x.compare(0, 1, 1), unlike);
        Checks.due(when + ": compare(1, 0, 1)", x.compare(1, 0, 1), unlike);
    }

    private static void compareOfNoneAndOfFive() {
        Document.promise(21, "what: 0: the rolls of which both remember a session;", "Compares the sessions of two members.",
            "Returns that number.");
        ClubRolls x = Checks.club("m0m0");
        compares(x, "no session is over", 0, 0);
        Checks.due("compare(0, 0, 0) of none", x.compare(0, 0, 0), 0);
        for (int rolls = 0; rolls <= 7; rolls++) {
            x.call(0, 3);
            x.ticks(3);
            compares(x, "sessions of " + rolls + " rolls of both", Math.min(rolls, 5), 0);
            Checks.due("compare(1, 1, 0)", x.compare(1, 1, 0), Math.min(rolls + 1, 5));
            Checks.due("compare(1, 1, 1)", x.compare(1, 1, 1), 0);
        }
    }

    private static void compareOfUnlikeSets() {
        Document.promise(21, "1: those of them in which they heard unlike sets");
        ClubRolls x = Checks.club("m0m0s0s1c003t03");
        compares(x, "rolls that are not of both", 0, 0);
        x.say(0);
        x.leave(1);
        x.back(1);
        x.call(0, 1);
        compares(x, "a speech that one has not heard", 1, 1);
        x.call(0, 3);
        x.ticks(3);
        compares(x, "rolls of each alone", 1, 1);
        x.say(0);
        x.ticks(1);
        x.leave(1);
        x.back(1);
        x.call(0, 1);
        compares(x, "a speech that both have heard", 2, 1);
    }

    private static void compareOfWhatIsNoMember() {
        Document.promise(21, "a: member", "b: member", "Throws IndexOutOfBoundsException if there is no such member");
        for (int m : NO_MEMBERS) {
            Bounds.refuses(Bounds.OUTSIDE, Bounds::busy, "compare(" + m + ", 0, 0)", x -> x.compare(m, 0, 0));
            Bounds.refuses(Bounds.OUTSIDE, Bounds::busy, "compare(5, " + m + ", 1)", x -> x.compare(5, m, 1));
            Bounds.refuses(Bounds.OUTSIDE, Bounds::busy, "compare(5, " + m + ", 2)", x -> x.compare(5, m, 2));
            Bounds.refuses(Bounds.OUTSIDE, Bounds::busy, "compare(" + m + ", 0, -1)", x -> x.compare(m, 0, -1));
        }
    }

    private static void compareNeither0Nor1() {
        Document.promise(21, "Throws IllegalArgumentException if what is neither 0 nor 1");
        for (int what : NEITHER_0_NOR_1) {
            Bounds.refuses(Bounds.WRONG, Bounds::busy, "compare(0, 5, " + what + ")", x -> x.compare(0, 5, what));
            Bounds.refuses(Bounds.WRONG, Bounds::busy, "compare(5, 5, " + what + ")", x -> x.compare(5, 5, what));
        }
    }

    private static void lacksOfNoneAndOf20() {
        Document.promise(22, "Counts the speeches that a member lacks.");
        ClubRolls x = Bounds.oneRoll();
        for (int i = 0; i < 24; i++) {
            Checks.due("lacks(5)", x.lacks(5), Math.min(i, 20));
            x.say(i / 4);
        }
        for (int m = 0; m < 6; m++) {
            Checks.due("lacks(" + m + ") of 24, and its own 4", x.lacks(m), 20);
        }
        x.ticks(1);
        for (int m = 0; m < 6; m++) {
            Checks.due("lacks(" + m + "), all are heard", x.lacks(m), 0);
        }
        Checks.due("lacks(0), alone", Checks.club("m0s0").lacks(0), 0);
    }

    private static void lacksOfThoseWhoAreInTheRollNow() {
        Document.promise(22, "Returns how many speeches there are that another member of its roll, who is in that roll now"
            + " too (also one who is gone), has heard in it so far, and this one has not.");
        ClubRolls x = Bounds.oneRoll();
        x.say(0);
        x.cut(0, 5, true);
        x.say(0);
        x.ticks(1);
        Checks.due("lacks(5), the note was lost", x.lacks(5), 1);
        Checks.due("lacks(1)", x.lacks(1), 0);
        for (int m = 0; m < 4; m++) {
            x.leave(m);
        }
        Checks.due("lacks(5), of those who are gone and of 4", x.lacks(5), 1);
        x.call(4, 16);
        Checks.due("lacks(5), of those who are gone alone", x.lacks(5), 1);
        x.leave(5);
        Checks.due("lacks(5), who is gone itself", x.lacks(5), 1);
        for (int m = 0; m < 4; m++) {
            Checks.due("lacks(5), one more is back", x.lacks(5), 1);
            x.back(m);
            x.say(m);
        }
        Checks.due("lacks(5), of none, though the others speak in rolls of their own", x.lacks(5), 0);
    }

    private static void lacksOfWhatIsNoMember() {
        Document.promise(22, "m: member", "Throws IndexOutOfBoundsException if there is no such member");
        for (int m : NO_MEMBERS) {
            Bounds.refuses(Bounds.OUTSIDE, Bounds::busy, "lacks(" + m + ")", x -> x.lacks(m));
        }
        Bounds.refuses(Bounds.OUTSIDE, Bounds::fresh, "lacks(0) of none", x -> x.lacks(0));
    }

    private static void togetherOfNoneAndOfAll() {
        Document.promise(23, "Finds the greatest group that is of one mind.", "Returns the set of members who are in one"
            + " and the same roll now, and are not gone, that has the most members;", "0 without any.");
        Checks.due("together() of none", new ClubRolls().together(), 0);
        Checks.due("together() of all gone", Checks.club("m0m0m0c007t03g0g1g2").together(), 0);
        ClubRolls x = Bounds.oneRoll();
        Checks.due("together() of all", x.together(), 63);
        x.call(3, 63);
        x.ticks(1);
        Checks.due("together() of all, hushed", x.together(), 63);
        for (int m = 0; m < 5; m++) {
            x.leave(m);
            Checks.due("together() of those who are not gone", x.together(), 62 << m & 63);
        }
        x.leave(5);
        Checks.due("together() of all gone", x.together(), 0);
        x.back(5);
        Checks.due("together() of one who is back", x.together(), 32);
    }

    private static void togetherOfSeveral() {
        Document.promise(23, "of several the one with the lowest member;");
        Checks.due("each alone", Checks.club("m0m0m0").together(), 1);
        Checks.due("two of two", Checks.club("m0m0m0m0c106c009t03").together(), 9);
        Checks.due("two of two", Checks.club("m0m0m0m0c003c212t03").together(), 3);
        Checks.due("three of two", Checks.club("m0m0m0m0m0m0c021c142t03").together(), 21);
        Checks.due("one more in the higher one", Checks.club("m0m0m0m0m0c003c228t03").together(), 28);
        Checks.due("one of them is gone", Checks.club("m0m0m0m0c003c212t03g0").together(), 12);
    }

    private static void nothingIsChanged() {
        Document.terms("these and all following methods up to the save slots change nothing.");
        Bounds.tells(Bounds::busy, "standsIn(0, 13, 0)", x -> x.standsIn(0, 13, 0), 20);
        Bounds.tells(Bounds::busy, "standsIn(5, 33, 1)", x -> x.standsIn(5, 33, 1), 21);
        Bounds.tells(Bounds::busy, "compare(0, 2, 0)", x -> x.compare(0, 2, 0), 0);
        Bounds.tells(Bounds::busy, "compare(5, 5, 0)", x -> x.compare(5, 5, 0), 5);
        Bounds.tells(Bounds::busy, "lacks(5)", x -> x.lacks(5), 0);
        Bounds.tells(Bounds::busy, "together()", x -> x.together(), 5);
        Bounds.tells(Bounds::busy, "runScript()", x -> x.runScript(3, 20013_50060_44000L), 2);
        Bounds.tells(Bounds::busy, "runScript()", x -> x.runScript(3, 40000_31210_50060L), Bounds.NONE);
    }
}
