/** Promises 24 and 25: runScript and simulate. */
public final class ScriptsTest {
    private static final int NONE = ClubRolls.NONE;

    private ScriptsTest() {
    }

    public static void main(String[] args) {
        scriptsOfOneCommand();
        scriptsThatAreNoCommands();
        scriptsOfMembersThatDoNotExist();
        scriptsThatAsk();
        scriptsGoOnFromStepToStep();
        scriptsRefuse();
        scriptsChangeNothing();
        simulateByHand();
        simulateAsByCalls();
        simulateTellsNoMoreThan99();
        simulateRefuses();
        simulateChangesNothing();
        Checks.end("ScriptsTest");
    }

    private static void script(ClubRolls x, int n, long script, int due) {
        Checks.due("runScript(" + n + ", " + script + ")", x.runScript(n, script), due);
    }

    private static void good(ClubRolls x, long... groups) {
        for (long group : groups) {
            script(x, 1, group, NONE);
        }
    }

    private static void bad(ClubRolls x, long... groups) {
        for (long group : groups) {
            script(x, 1, group, 0);
        }
    }

    /** 0 sits, 1 is hushed, 2 is gone, 3 made four speeches. */
    private static ClubRolls mixed() {
        return Checks.club("m0m0m0m0c103g2s3s3s3s3x01");
    }

    private static void scriptsOfOneCommand() {
        ClubRolls x = mixed();
        good(x, 10000);
        bad(x, 11000, 12000, 13000);
        good(x, 20001, 20003, 20015, 21002, 23008);
        bad(x, 20000, 20002, 20016, 20017, 20063, 20099, 22004, 22015);
        good(x, 30110, 31010, 30200, 30210, 30100);
        bad(x, 30010, 30000, 33310);
        good(x, 40000, 41000, 43000, 42001);
        bad(x, 42000, 40001, 41001, 43001);
        good(x, 50001, 50060, 50009);
        bad(x, 50000, 50061, 50099);
    }

    /** Another digit where a 0 is written, a c above 1, a b above 1 in 4, and no such command. */
    private static void scriptsThatAreNoCommands() {
        ClubRolls x = mixed();
        bad(x, 10100, 10010, 10001, 19000);
        bad(x, 20101, 20901);
        bad(x, 30120, 30190, 30111, 30101, 30109);
        bad(x, 40100, 40010, 42101, 42011, 40002, 42002, 42009);
        bad(x, 51001, 50101, 51101);
        bad(x, 60100, 60900);
        bad(x, 70100, 70010, 71011, 70110);
        bad(x, 80100, 80900);
        bad(x, 90110, 90010, 90190);
        bad(x, 0, 1, 1000, 9999, 100);
    }

    private static void scriptsOfMembersThatDoNotExist() {
        ClubRolls x = mixed();
        bad(x, 14000, 19000, 24016, 24001, 30410, 34010, 34410, 30400, 44000, 44001);
        bad(x, 64000, 74000, 84000, 90400, 94000, 94400, 99909);
        ClubRolls nobody = new ClubRolls();
        bad(nobody, 10000, 20001, 30110, 40000, 40001, 60000, 70000, 80000, 90000);
        good(nobody, 50001);
    }

    private static void scriptsThatAsk() {
        ClubRolls x = Checks.club("m0m0c001c001c001s0s0c103");
        good(x, 60000, 60003, 61000);
        bad(x, 60004, 60099, 61001);
        good(x, 70000, 71001);
        bad(x, 70001, 70002, 70003, 70009, 71000, 71002);
        good(x, 80000, 80002, 81000);
        bad(x, 80003, 80099, 81001);
        x.leave(1);
        good(x, 71002);
        good(x, 90100, 90109, 90000, 91100);
        ClubRolls y = Checks.club("m0m0c003t03s0g1b1c001");
        Checks.due("a roll that both heard unlike", y.compare(0, 1, 1), 1);
        bad(y, 90100, 91000);
        good(y, 90101, 90109, 91001, 90000);
        ClubRolls z = Checks.club("m0t60m0c001c001c001c001c001c001c001c001c001c001c001c001");
        good(z, 60012, 60009);
        bad(z, 60013, 60020);
    }

    private static void scriptsGoOnFromStepToStep() {
        ClubRolls x = Checks.club("m0m0");
        script(x, 3, 20003_50002_60001L, NONE);
        script(x, 3, 20003_50001_60001L, 2);
        script(x, 3, 20003_50002_61001L, 2);
        script(x, 3, 20003_10000_60001L, 1);
        script(x, 3, 10000_80001_81000L, NONE);
        script(x, 3, 10000_80002_99999L, 1);
        script(x, 3, 40000_40001_60001L, NONE);
        script(x, 3, 40000_70002_10000L, 2);
        script(x, 2, 30110_20003L, NONE);
        script(x, 2, 40000_40000L, 1);
        script(x, 2, 99999_10000L, 0);
        script(x, 3, 30110_20003_50002L, NONE);
        script(x, 2, 10000L, 0);
        script(x, 3, 10000_10000L, 0);
        script(x, 3, 0, 0);
        ClubRolls y = Checks.club("m0m0c003t03s0t01");
        script(y, 3, 80001_81001_80002L, 2);
        script(y, 3, 20003_50003_60002L, NONE);
    }

    private static void scriptsRefuse() {
        ClubRolls x = mixed();
        int[] counts = {0, 4, -1, Integer.MIN_VALUE, Integer.MAX_VALUE};
        for (int n : counts) {
            Checks.wrong("runScript(" + n + ", 10000)", () -> x.runScript(n, 10000));
            Checks.wrong("runScript(" + n + ", 0)", () -> x.runScript(n, 0));
            Checks.wrong("runScript(" + n + ", -1)", () -> x.runScript(n, -1));
        }
        long[] scripts = {-1, Long.MIN_VALUE, Long.MAX_VALUE, -10000};
        for (int n = 1; n <= 3; n++) {
            int count = n;
            for (long script : scripts) {
                Checks.wrong("runScript(" + n + ", " + script + ")", () -> x.runScript(count, script));
            }
        }
        Checks.wrong("runScript(1, 100000)", () -> x.runScript(1, 100000));
        Checks.wrong("runScript(1, 4295017296), whose low half is a command", () -> x.runScript(1, 4295017296L));
        Checks.wrong("runScript(2, 10000000000)", () -> x.runScript(2, 10000000000L));
        Checks.wrong("runScript(3, 1000000000000000)", () -> x.runScript(3, 1000000000000000L));
        script(x, 1, 99999, 0);
        script(x, 2, 50001_99999L, 1);
        script(x, 2, 99999_99999L, 0);
        script(x, 3, 50001_50001_99999L, 2);
        script(x, 3, 99999_99999_99999L, 0);
    }

    private static void scriptsChangeNothing() {
        ClubRolls x = mixed();
        x.set(3);
        x.save(0);
        String before = Checks.all(x);
        script(x, 3, 20003_50060_40000L, NONE);
        script(x, 3, 10000_42001_30100L, NONE);
        Checks.same("the club behind scripts", Checks.all(x), before);
        Checks.due("none is remembered", x.undo(), 0);
        x.restore(0);
        Checks.same("the slot", Checks.all(x), before);
    }

    /** The seed whose first x is the given one, as the factor is odd. */
    private static long seedOf(long x) {
        long inverse = 1;
        for (int i = 0; i < 6; i++) {
            inverse *= 2 - 6364136223846793005L * inverse;
        }
        return (x - 1442695040888963407L) * inverse;
    }

    /** What one turn with r = 16 * q + kind answers. */
    private static int turn(ClubRolls x, int kind, int q) {
        return x.simulate(seedOf(((long) q * 16 + kind) << 33), 1);
    }

    private static void simulateByHand() {
        ClubRolls x = Checks.club("m0m0m0");
        for (int kind = 0; kind < 16; kind++) {
            boolean calls = kind == 6 || kind == 7;
            Checks.due("kind " + kind + " of 0", turn(x, kind, 0), kind >= 1 && kind <= 5 ? 100 : calls ? 10000 : 0);
        }
        Checks.due("say(2)", turn(x, 1, 2), 100);
        Checks.due("say(3), who does not exist", turn(x, 1, 3), 0);
        Checks.due("say(1) by 7 % 6", turn(x, 5, 7), 100);
        Checks.due("call(0, 1), as 3 and 4 do not exist", turn(x, 6, 24 * 8), 10000);
        Checks.due("call(0, 3)", turn(x, 6, 24 * 8 + 6 * 8 * 3), 0);
        Checks.due("call(5, ..)", turn(x, 7, 5), 0);
        ClubRolls y = Checks.club("m0m0c003t01");
        Checks.due("ticks(1): the answer comes", turn(y, 11, 0), 10000);
        Checks.due("ticks(1) by 8 % 8", turn(y, 15, 8), 10000);
        ClubRolls z = Checks.club("m0m3c003t01");
        Checks.due("ticks(7)", turn(z, 13, 6), 10000);
        Checks.due("ticks(6)", turn(z, 13, 5), 0);
        Checks.due("ticks(8)", turn(z, 14, 15), 10000);
        ClubRolls late = Checks.club("m0m0c003t03s0s0s0c102");
        Checks.due("ticks(1): three speeches are too late", turn(late, 12, 8), 3);
    }

    /** The same turns by calls on an object of its own that throw or do not, as the document says them. */
    private static void simulateAsByCalls() {
        String[] clubs = {"", "m0m2m4m9", "m0m0m0m0m0m0", "m0m1m2c007t09s0s1s2", "m3m3m5p04c007g1", "m0m9m1m8m2m7c063p30"};
        for (String club : clubs) {
            for (int i = 0; i < 40; i++) {
                long seed = i == 0 ? Long.MIN_VALUE : i == 1 ? Long.MAX_VALUE : i == 2 ? -1 : i * 0x9E3779B97F4A7C15L;
                int n = i % 4 == 0 ? 60 : i % 4 == 1 ? 1 : 1 + i % 60;
                Checks.due("simulate(" + seed + ", " + n + ") of " + club, Checks.club(club).simulate(seed, n),
                    byCalls(Checks.club(club), seed, n));
            }
        }
    }

    private static int byCalls(ClubRolls y, long seed, int n) {
        int stood = y.about(6);
        int speeches = y.about(4);
        int late = y.about(5);
        long x = seed;
        for (int i = 0; i < n; i++) {
            x = x * 6364136223846793005L + 1442695040888963407L;
            int r = (int) (x >>> 33);
            try {
                turnByCalls(y, r % 16, r / 16);
            } catch (RuntimeException e) {
                // What would throw is left out.
            }
        }
        late = y.about(5) - late;
        return 10000 * (y.about(6) - stood) + 100 * (y.about(4) - speeches) + (late > 99 ? 99 : late);
    }

    private static void turnByCalls(ClubRolls y, int kind, int q) {
        int m = q % 6;
        if (kind == 0) {
            y.member(q % 10);
        } else if (kind <= 5) {
            y.say(m);
        } else if (kind <= 7) {
            int set = 0;
            for (int bit = 0; bit < y.about(0); bit++) {
                set |= (q / 8 % 64 >> bit & 1) << bit;
            }
            y.call(m, set | 1 << m);
        } else if (kind == 8) {
            y.cut(m, q / 6 % 6, q / 64 % 3 == 0);
        } else if (kind == 9 && q / 8 % 3 == 0) {
            y.leave(m);
        } else if (kind == 9) {
            y.back(m);
        } else if (kind == 10) {
            y.set(q % 41);
        } else {
            y.ticks(1 + q % 8);
        }
    }

    /** All are in the roll 1 at unlike places, speak four times each, and call a roll of their own alone. */
    private static ClubRolls late(int speakers) {
        ClubRolls x = Checks.club("m0m0m0m0m0m0c063t03");
        for (int m = 0; m < speakers; m++) {
            for (int j = 0; j < 4; j++) {
                x.say(m);
            }
        }
        for (int m = 0; m < 6; m++) {
            x.call(m, 1 << m);
        }
        return x;
    }

    private static void simulateTellsNoMoreThan99() {
        Checks.due("80 late ones", turn(late(4), 11, 0), 80);
        Checks.due("100 late ones", turn(late(5), 11, 0), 99);
        Checks.due("120 late ones", turn(late(6), 11, 0), 99);
        ClubRolls x = late(4);
        x.ticks(1);
        Checks.due("those ahead of the turns do not count", turn(x, 11, 0), 0);
        ClubRolls y = Checks.club("m0m0m0m0m0m0c063t03");
        for (int i = 0; i < 20; i++) {
            y.say(i / 4);
        }
        y.cut(5, 4, true);
        for (int m = 0; m < 6; m++) {
            y.call(m, 1 << m);
        }
        y.say(5);
        Checks.due("100 late ones, by a seed of 60 turns", y.simulate(1, 60) % 100, 99);
    }

    private static void simulateRefuses() {
        ClubRolls x = mixed();
        int[] counts = {0, 61, -1, Integer.MIN_VALUE, Integer.MAX_VALUE};
        for (int n : counts) {
            Checks.wrong("simulate(5, " + n + ")", () -> x.simulate(5, n));
        }
    }

    private static void simulateChangesNothing() {
        ClubRolls x = mixed();
        x.set(3);
        x.save(0);
        String before = Checks.all(x);
        for (int i = 0; i < 20; i++) {
            x.simulate(i * 7919L, 60);
        }
        Checks.same("the club behind simulations", Checks.all(x), before);
        Checks.due("none is remembered", x.undo(), 0);
        x.restore(0);
        Checks.same("the slot", Checks.all(x), before);
    }
}
