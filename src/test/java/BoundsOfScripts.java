import java.math.BigInteger;

/** The bounds that promises 24 to 27 name: runScript, simulate, save, restore. */
final class BoundsOfScripts {
    private static final int[] NO_SLOTS = {-1, 2, Bounds.MIN, Bounds.MAX};

    private BoundsOfScripts() {
    }

    static void run() {
        scriptsOf1To3Commands();
        scriptsOfAsManyDigits();
        scriptsWithZerosBeforeThem();
        theIndexOfTheFirstThatFails();
        sayInScripts();
        callInScripts();
        cutInScripts();
        leaveAndBackInScripts();
        ticksInScripts();
        rollsInScripts();
        presenceInScripts();
        speechesInScripts();
        comparisonsInScripts();
        noSuchCommand();
        membersThatDoNotExist();
        simulateFrom1To60();
        simulateWithLongOverflow();
        simulateLeavesOutWhatWouldThrow();
        simulateTellsLateOnesUpTo99();
        simulateTellsThoseInTheTurns();
        saveInTheSlots0And1();
        restoreOfTheSlots0And1();
        restoreOfNothing();
        restoreForgetsAllStates();
    }

    private static void good(ClubRolls x, long... groups) {
        for (long group : groups) {
            Checks.due("runScript(1, " + group + ")", x.runScript(1, group), Bounds.NONE);
        }
    }

    private static void bad(ClubRolls x, long... groups) {
        for (long group : groups) {
            Checks.due("runScript(1, " + group + ")", x.runScript(1, group), 0);
        }
    }

    private static void scriptsOf1To3Commands() {
        Document.promise(24, "A script has 1 to 3 commands;", "n: number of commands, 1 to 3", "Throws"
            + " IllegalArgumentException if n is out of range, or if script is negative or has more than 5 * n digits",
            "Runs a script on a copy of the state.");
        Bounds.tells(Bounds::busy, "runScript(1, ..)", x -> x.runScript(1, 50001L), Bounds.NONE);
        Bounds.tells(Bounds::busy, "runScript(3, ..)", x -> x.runScript(3, 50001_50060_15000L), Bounds.NONE);
        int[] out = {0, 4, -1, Bounds.MIN, Bounds.MAX};
        for (int n : out) {
            Bounds.refuses(Bounds.WRONG, Bounds::busy, "runScript(" + n + ", 50001)", x -> x.runScript(n, 50001));
            Bounds.refuses(Bounds.WRONG, Bounds::busy, "runScript(" + n + ", 0)", x -> x.runScript(n, 0));
            Bounds.refuses(Bounds.WRONG, Bounds::busy, "runScript(" + n + ", -1)", x -> x.runScript(n, -1));
        }
    }

    private static void scriptsOfAsManyDigits() {
        Document.promise(24, "script: the commands, a number of at most 5 * n digits (0 or more)");
        long bound = 1;
        for (int n = 1; n <= 3; n++) {
            int count = n;
            bound *= 100000;
            long[] out = {-1, bound, bound + 50001, Long.MIN_VALUE, Long.MAX_VALUE, -bound, (1L << 62) + 50001};
            for (long script : out) {
                Bounds.refuses(Bounds.WRONG, Bounds::busy, "runScript(" + n + ", " + script + ")",
                    x -> x.runScript(count, script));
            }
            Bounds.tells(Bounds::busy, "runScript(" + n + ", 0)", x -> x.runScript(count, 0), 0);
            long most = bound - 1;
            Bounds.tells(Bounds::busy, "runScript(" + n + ", " + most + ")", x -> x.runScript(count, most), 0);
        }
    }

    private static void scriptsWithZerosBeforeThem() {
        Document.promise(24, "each is a group of five decimal digits d1 to d5, and the first command is the highest group"
            + " of the number (with zeros before it, if it has fewer digits).");
        ClubRolls x = Checks.club("m0");
        bad(x, 0, 1, 5000, 9999);
        Checks.due("runScript(2, 50001)", x.runScript(2, 50001), 0);
        Checks.due("runScript(3, 5000150001)", x.runScript(3, 50001_50001L), 0);
        Checks.due("runScript(2, 5000150001)", x.runScript(2, 50001_50001L), Bounds.NONE);
        Checks.due("the highest group first", x.runScript(2, 20001_60001L), Bounds.NONE);
        Checks.due("the highest group first", x.runScript(2, 60001_20001L), 0);
    }

    private static void theIndexOfTheFirstThatFails() {
        Document.promise(24, "Returns the index, from 0, of the first command that fails;", "NONE if all succeed.");
        ClubRolls x = Checks.club("m0");
        Checks.due("the first of 3", x.runScript(3, 99999_99999_99999L), 0);
        Checks.due("the second of 3", x.runScript(3, 50001_99999_99999L), 1);
        Checks.due("the third of 3", x.runScript(3, 50001_50001_99999L), 2);
        Checks.due("none of 3", x.runScript(3, 50001_50001_50001L), Bounds.NONE);
        Checks.due("the second of 2", x.runScript(2, 50001_99999L), 1);
        Checks.due("the first of 1", x.runScript(1, 99999), 0);
        Checks.due("none behind the first one counts", x.runScript(3, 50001_99999_50001L), 1);
        Checks.due("4 speeches and no more", Checks.club("m0s0s0").runScript(3, 10000_10000_10000L), 2);
    }

    private static void sayInScripts() {
        Document.promise(24, "1 m 0 0 0: say(m).", "The commands 1 to 5 fail if the method would throw an exception;");
        good(Bounds.oneRoll(), 10000, 15000);
        ClubRolls x = Bounds.busy();
        good(x, 15000);
        bad(x, 10000, 11000, 12000, 13000, 14000, 16000, 19000);
        bad(x, 15001, 15009, 15010, 15090, 15100, 15900);
    }

    private static void callInScripts() {
        Document.promise(24, "2 m 0 s s: call(m, ss).", "nn and ss are decimal numbers.");
        ClubRolls x = Bounds.oneRoll();
        good(x, 20001, 20063, 25032, 25063, 23010, 20011);
        bad(x, 20000, 20002, 20062, 20064, 20065, 20099, 25031, 25064, 20101, 20901, 26063, 29064);
        bad(Bounds.busy(), 24016, 24063);
        good(Bounds.busy(), 20063, 21002);
        ClubRolls five = Checks.club("m0m0m0m0m0");
        good(five, 20031);
        bad(five, 20032, 20033, 20063);
    }

    private static void cutInScripts() {
        Document.promise(24, "3 a b c 0: cut(a, b, c is 1).");
        ClubRolls x = Checks.club("m0m0x01");
        good(x, 30100, 30110, 31000, 31010);
        bad(x, 30120, 30190, 30101, 30109, 30111, 30000, 30010, 31110, 30210, 32010, 30910, 39010);
        Checks.due("a way that is mended", x.runScript(3, 30100_20003_50002L), Bounds.NONE);
        ClubRolls y = Checks.club("m0m0");
        Checks.due("mended: the roll stands", y.runScript(3, 20003_50002_60001L), Bounds.NONE);
        Checks.due("mended: 0 cuts no way", y.runScript(3, 30100_20003_50002L), Bounds.NONE);
        Checks.due("the roll of both does not stand when 1 cuts", Checks.club("m0m0c003").runScript(3, 30110_50060_60001L), 2);
        Checks.due("it does when 0 mends", Checks.club("m0m0c003").runScript(3, 30100_50060_60001L), Bounds.NONE);
        Checks.due("mended ahead of the answer", Checks.club("m0m0c003x01").runScript(3, 30100_50060_60001L), Bounds.NONE);
    }

    private static void leaveAndBackInScripts() {
        Document.promise(24, "4 m 0 0 b: leave(m) with b as 0, back(m) with b as 1.");
        ClubRolls x = Bounds.busy();
        good(x, 40000, 41000, 45000, 44001);
        bad(x, 44000, 40001, 41001, 45001, 46000, 46001, 49000);
        bad(x, 40002, 44002, 40009, 44009, 40010, 44011, 40090, 40100, 44101, 40900);
        Checks.due("leave and back", x.runScript(3, 45000_45001_15000L), Bounds.NONE);
        Checks.due("leave", x.runScript(2, 45000_15000L), 1);
    }

    private static void ticksInScripts() {
        Document.promise(24, "5 0 0 n n: ticks(nn).");
        ClubRolls x = Bounds.busy();
        good(x, 50001, 50009, 50010, 50059, 50060);
        bad(x, 50000, 50061, 50070, 50099, 50101, 50901, 51001, 55001, 59060);
        ClubRolls y = Checks.club("m0m0c003");
        Checks.due("1 tick", y.runScript(2, 50001_60001L), 1);
        Checks.due("2 ticks", y.runScript(2, 50002_60001L), Bounds.NONE);
        ClubRolls z = Checks.club("m0m9c003");
        Checks.due("19 ticks", z.runScript(2, 50019_60001L), 1);
        Checks.due("20 ticks", z.runScript(2, 50020_60001L), Bounds.NONE);
    }

    private static void rollsInScripts() {
        Document.promise(24, "6 m 0 n n: succeeds if the number of the roll of the member m is at least nn.");
        ClubRolls x = Checks.club("m0m0");
        good(x, 60000, 61000);
        bad(x, 60001, 60099, 60100, 60900, 62000, 69000);
        for (int number = 1; number <= 100; number++) {
            x.call(0, 1);
            good(x, 60000 + Math.min(number, 99));
            if (number < 99) {
                bad(x, 60001 + number, 60099);
            }
            bad(x, 61001);
        }
    }

    private static void presenceInScripts() {
        Document.promise(24, "7 m 0 0 h: succeeds if memberOf(m, 1) is h.");
        ClubRolls x = Bounds.busy();
        int[] due = {1, 1, 1, 0, 2, 0};
        for (int m = 0; m < 6; m++) {
            for (int h = 0; h <= 9; h++) {
                Checks.due("runScript(1, 7" + m + "00" + h + ")", x.runScript(1, 70000 + m * 1000 + h),
                    h == due[m] ? Bounds.NONE : 0);
            }
        }
        bad(x, 70011, 70101, 70091, 70901, 73010, 73100, 76000, 79000);
    }

    private static void speechesInScripts() {
        Document.promise(24, "8 m 0 n n: succeeds if the member m has heard at least nn speeches in its session.");
        ClubRolls x = Bounds.oneRoll();
        for (int heard = 0; heard <= 24; heard++) {
            good(x, 80000 + heard, 80000);
            bad(x, 80001 + heard, 80099);
            if (heard < 24) {
                x.say(heard / 4);
                x.ticks(1);
            }
        }
        bad(x, 80100, 80900, 86000, 89000);
        x.call(0, 1);
        good(x, 80000);
        bad(x, 80001);
    }

    private static void comparisonsInScripts() {
        Document.promise(24, "9 a b 0 n: succeeds if compare(a, b, 1) is at most n.");
        ClubRolls x = Checks.club("m0m0");
        for (int unlike = 0; unlike <= 2; unlike++) {
            Checks.due("compare(0, 1, 1)", x.compare(0, 1, 1), unlike);
            good(x, 90100 + unlike, 91000 + unlike, 90109, 90000, 91100);
            if (unlike > 0) {
                bad(x, 90099 + unlike, 91000 + unlike - 1);
            }
            x.call(0, 3);
            x.ticks(3);
            x.say(0);
            x.leave(1);
            x.back(1);
            x.call(0, 1);
        }
        bad(x, 90119, 90199, 90019, 90010, 90209, 92009, 96009, 90609, 99909);
    }

    private static void noSuchCommand() {
        Document.promise(24, "and so does any other group (also one with another digit where a 0 is written, a c above 1, or a"
            + " b above 1 in 4).");
        ClubRolls x = Bounds.busy();
        for (int group = 0; group < 10000; group++) {
            if (x.runScript(1, group) != 0) {
                Checks.due("runScript(1, " + group + ")", x.runScript(1, group), 0);
            }
        }
        ClubRolls y = Bounds.oneRoll();
        String[] forms = {"none", "[0-5]000", "[0-5]0..", "[0-5][0-5][01]0", "[0-5]00[01]", "00..", "[0-5]0..", "[0-5]00.",
            "[0-5]0..", "[0-5][0-5]0."};
        for (int group = 10000; group < 100000; group++) {
            String digits = Integer.toString(group);
            boolean isCommand = digits.substring(1).matches(forms[group / 10000]);
            boolean succeeds = y.runScript(1, group) == Bounds.NONE;
            Checks.note(isCommand || !succeeds, group + " succeeds, and is no command");
        }
    }

    private static void membersThatDoNotExist() {
        Document.promise(24, "commands with members that do not exist fail,");
        ClubRolls x = Checks.club("m0m0m0m0m0");
        good(x, 14000, 24016, 34010, 30410, 44000, 64000, 74000, 84000, 94009, 90409);
        bad(x, 15000, 25032, 25000, 35010, 30510, 35500, 45000, 45001, 65000, 75000, 85000, 95009, 90509, 95500, 95509);
        bad(new ClubRolls(), 10000, 20001, 30110, 40000, 40001, 60000, 70000, 80000, 90000, 90109);
        good(new ClubRolls(), 50001, 50060);
    }

    private static void simulateFrom1To60() {
        Document.promise(25, "n: number of turns, 1 to 60", "Throws IllegalArgumentException if n is out of range", "seed: any"
            + " long", "Simulates n turns on a copy of the state.");
        long[] seeds = {0, 1, -1, Long.MIN_VALUE, Long.MAX_VALUE};
        int[] turns = {1, 2, 59, 60};
        for (long seed : seeds) {
            for (int n : turns) {
                Bounds.tells(Bounds::busy, "simulate(" + seed + ", " + n + ")", x -> x.simulate(seed, n),
                    byCalls(Bounds.busy(), seed, n));
            }
        }
        int[] out = {0, 61, -1, Bounds.MIN, Bounds.MAX};
        for (int n : out) {
            Bounds.refuses(Bounds.WRONG, Bounds::busy, "simulate(0, " + n + ")", x -> x.simulate(0, n));
            Bounds.refuses(Bounds.WRONG, Bounds::fresh, "simulate(-1, " + n + ")", x -> x.simulate(-1, n));
        }
    }

    /** The numbers without any overflow, and cut to 64 bits then. */
    private static void simulateWithLongOverflow() {
        Document.promise(25, "Each turn first replaces x by x * 6364136223846793005L + 1442695040888963407L (with long"
            + " overflow), and r = (int) (x >>> 33) is computed.", "A long x starts as the seed.", "q is r / 16.",
            "By r % 16: 0: member(q % 10).", "1 to 5: say(q % 6).", "6 and 7: call(q % 6, the members that there are among"
            + " the bits of q / 8 % 64, and q % 6).", "8: cut(q % 6, q / 6 % 6, q / 64 % 3 is 0).", "9: leave(q % 6), if q"
            + " / 8 % 3 is 0, otherwise back(q % 6).", "10: set(q % 41).", "Otherwise: ticks(1 + q % 8).");
        for (int i = -40; i <= 40; i++) {
            long seed = i * 0x7654321012345677L;
            Checks.due("simulate(" + seed + ", 60) of none", new ClubRolls().simulate(seed, 60),
                byCalls(new ClubRolls(), seed, 60));
            Checks.due("simulate(" + seed + ", 60) of six", Bounds.oneRoll().simulate(seed, 60),
                byCalls(Bounds.oneRoll(), seed, 60));
        }
    }

    private static int byCalls(ClubRolls y, long seed, int n) {
        int stood = y.about(6);
        int speeches = y.about(4);
        int late = y.about(5);
        BigInteger range = BigInteger.ONE.shiftLeft(64);
        BigInteger x = BigInteger.valueOf(seed).mod(range);
        for (int i = 0; i < n; i++) {
            x = x.multiply(new BigInteger("6364136223846793005")).add(new BigInteger("1442695040888963407")).mod(range);
            int r = x.shiftRight(33).intValueExact();
            try {
                turn(y, r % 16, r / 16);
            } catch (IndexOutOfBoundsException | IllegalArgumentException | IllegalStateException e) {
                // What would throw is left out.
            }
        }
        return 10000 * (y.about(6) - stood) + 100 * (y.about(4) - speeches) + Math.min(y.about(5) - late, 99);
    }

    private static void turn(ClubRolls y, int kind, int q) {
        switch (kind) {
            case 0 -> y.member(q % 10);
            case 1, 2, 3, 4, 5 -> y.say(q % 6);
            case 6, 7 -> y.call(q % 6, q / 8 % 64 & (1 << y.about(0)) - 1 | 1 << q % 6);
            case 8 -> y.cut(q % 6, q / 6 % 6, q / 64 % 3 == 0);
            case 9 -> {
                if (q / 8 % 3 == 0) {
                    y.leave(q % 6);
                } else {
                    y.back(q % 6);
                }
            }
            case 10 -> y.set(q % 41);
            default -> y.ticks(1 + q % 8);
        }
    }

    /** The seed whose first x is the given one: the factor is odd, and so has an inverse. */
    private static long seedOf(int kind, int q) {
        long inverse = 1;
        for (int i = 0; i < 6; i++) {
            inverse *= 2 - 6364136223846793005L * inverse;
        }
        return (((long) q * 16 + kind << 33) - 1442695040888963407L) * inverse;
    }

    private static void turns(ClubRolls x, String when, int kind, int q, int due) {
        Checks.due(when + ": a turn of the kind " + kind + " and q " + q, x.simulate(seedOf(kind, q), 1), due);
    }

    private static void simulateLeavesOutWhatWouldThrow() {
        Document.promise(25, "What would throw an exception is left out.");
        for (int kind = 0; kind < 16; kind++) {
            turns(new ClubRolls(), "no members", kind, 0, 0);
            turns(new ClubRolls(), "no members", kind, 134217727, 0);
        }
        for (int kind = 1; kind <= 5; kind++) {
            turns(Bounds.oneRoll(), "who sits", kind, 5, 100);
            turns(Bounds.oneRoll(), "the last q", kind, 134217727, 100);
            turns(Checks.club("m0m0m0m0m0"), "who does not exist", kind, 5, 0);
            turns(Checks.club("m0s0s0s0s0"), "who made 4", kind, 6, 0);
            turns(Checks.club("m0g0"), "who is gone", kind, 0, 0);
        }
        for (int kind = 6; kind <= 7; kind++) {
            turns(Checks.club("m0"), "alone, as the others do not exist", kind, 63 * 8, 10000);
            turns(Checks.club("m0m0"), "with another one", kind, 63 * 8, 0);
            turns(Checks.club("m0m0"), "itself, and not the bits of q", kind, 24, 0);
            turns(Checks.club("m0m0"), "itself, and no bits of q", kind, 1, 10000);
            turns(Checks.club("m0g0"), "who is gone", kind, 0, 0);
        }
    }

    /** Speeches of the members of one roll come to all others of them when these are in later rolls of their own. */
    private static ClubRolls late(int due) {
        ClubRolls x = Bounds.oneRoll();
        for (int i = 0; i < due / 5; i++) {
            x.say(i / 4);
        }
        for (int m = 0; m < 5 - due % 5; m++) {
            x.cut(5, m, true);
        }
        x.say(5);
        for (int m = 0; m < 6; m++) {
            x.call(m, 1 << m);
        }
        return x;
    }

    private static void simulateTellsLateOnesUpTo99() {
        Document.promise(25, "(the speeches that came too late in the turns, or 99 if there are more).");
        int[] late = {0, 1, 97, 98, 99, 100, 101, 104};
        for (int due : late) {
            ClubRolls x = late(due);
            turns(x, due + " speeches too late", 11, 0, Math.min(due, 99));
            x.ticks(1);
            Bounds.about(x, "as by calls", 5, due);
        }
    }

    private static void simulateTellsThoseInTheTurns() {
        Document.promise(25, "Returns 10000 * (the rolls that stood in the turns) + 100 * (the speeches in the turns) + (the");
        ClubRolls x = Bounds.busy();
        turns(x, "a speech", 1, 5, 100);
        turns(x, "a tick", 11, 0, 0);
        Checks.note(x.about(4) > 0 && x.about(6) > 0, "speeches and rolls ahead of the turns");
        ClubRolls y = late(98);
        y.ticks(1);
        turns(y, "98 ahead of the turns", 11, 0, 0);
        turns(Checks.club("m0m0c003t01"), "a roll stands", 11, 0, 10000);
        turns(Checks.club("m0m0c003t01"), "a roll stands in 8 ticks", 15, 7, 10000);
    }

    private static void saveInTheSlots0And1() {
        Document.promise(26, "slot: 0 or 1", "Stores the present state in a save slot.", "Returns the time.", "Throws"
            + " IndexOutOfBoundsException if there is no such save slot");
        ClubRolls x = new ClubRolls();
        Checks.due("save(0) of a new object", x.save(0), 0);
        x.ticks(60);
        Checks.due("save(1)", x.save(1), 60);
        Checks.due("restore(0)", x.restore(0), 0);
        Checks.due("restore(1)", x.restore(1), 60);
        x.ticks(1);
        Checks.due("save(1) in place of another state", x.save(1), 61);
        x.ticks(1);
        Checks.due("restore(1)", x.restore(1), 61);
        for (int slot : NO_SLOTS) {
            Bounds.refuses(Bounds.OUTSIDE, Bounds::busy, "save(" + slot + ")", y -> y.save(slot));
            Bounds.refuses(Bounds.OUTSIDE, Bounds::fresh, "save(" + slot + ")", y -> y.save(slot));
        }
    }

    private static void restoreOfTheSlots0And1() {
        Document.promise(27, "slot: 0 or 1", "Throws IndexOutOfBoundsException if there is no such save slot", "Replaces the"
            + " state by the one in a save slot,", "The save slot keeps it.", "Returns the time then.");
        for (int slot = 0; slot <= 1; slot++) {
            int one = slot;
            ClubRolls x = Bounds.busy();
            x.save(slot);
            String saved = Bounds.told(x);
            for (int i = 0; i < 3; i++) {
                x.ticks(60);
                x.leave(5);
                Checks.due("restore(" + slot + ")", x.restore(slot), Bounds.busy().about(1));
                Checks.same("the state then", Bounds.told(x), saved);
            }
            Bounds.refuses(Bounds.REFUSED, Bounds.behind(Bounds::fresh, y -> y.save(1 - one)), "restore(" + slot
                + "), as only the other one is saved", y -> y.restore(one));
        }
        for (int slot : NO_SLOTS) {
            Bounds.refuses(Bounds.OUTSIDE, Bounds::busy, "restore(" + slot + ")", y -> y.restore(slot));
            Bounds.refuses(Bounds.OUTSIDE, Bounds::fresh, "restore(" + slot + "), none is saved", y -> y.restore(slot));
        }
    }

    private static void restoreOfNothing() {
        Document.promise(27, "Throws IllegalStateException if nothing has been saved in it since the last load");
        Bounds.refuses(Bounds.REFUSED, Bounds::busy, "restore(1)", x -> x.restore(1));
        for (int slot = 0; slot <= 1; slot++) {
            int one = slot;
            Bounds.refuses(Bounds.REFUSED, Bounds::fresh, "restore(" + slot + ")", x -> x.restore(one));
            Bounds.refuses(Bounds.REFUSED, Bounds.behind(() -> Checks.write(Bounds.busy(), "Rm0"),
                x -> x.save(one) + x.load()), "restore(" + slot + ") behind load()", x -> x.restore(one));
            ClubRolls x = Checks.write(Bounds.busy(), "Rm0m");
            x.save(slot);
            Checks.refused("load() of no club", x::load);
            Checks.due("restore(" + slot + ") behind a load() that was refused", x.restore(slot), x.about(1));
        }
    }

    private static void restoreForgetsAllStates() {
        Document.promise(27, "and forgets all remembered states.");
        ClubRolls x = Bounds.busy();
        x.restore(0);
        Checks.refused("undo() behind restore(), of 14 states", x::undo);
        x.ticks(1);
        Checks.due("undo() of the action behind it", x.undo(), 0);
        Checks.refused("undo() of more", x::undo);
        Bounds.refuses(Bounds.REFUSED, Bounds::busy, "restore(1), which forgets nothing", y -> y.restore(1));
    }
}
