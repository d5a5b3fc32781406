import java.util.function.LongSupplier;
import java.util.function.Supplier;
import java.util.function.ToLongFunction;

/** What the tests of bounds share: clubs to start from, and calls that are refused or change nothing. */
final class Bounds {
    static final int NONE = ClubRolls.NONE;
    static final int MIN = Integer.MIN_VALUE;
    static final int MAX = Integer.MAX_VALUE;
    static final Class<IndexOutOfBoundsException> OUTSIDE = IndexOutOfBoundsException.class;
    static final Class<IllegalArgumentException> WRONG = IllegalArgumentException.class;
    static final Class<IllegalStateException> REFUSED = IllegalStateException.class;

    private static final long[] SEEDS = {1, 77, -5, 1L << 40};

    private Bounds() {
    }

    static ClubRolls fresh() {
        return new ClubRolls();
    }

    /** Six members at one place, all in the roll 1 of 0; the time is 3. */
    static ClubRolls oneRoll() {
        return Checks.club("m0m0m0m0m0m0c063t03");
    }

    /** The member 0 calls the others, who are 10 ticks away; 149 notes are under way. */
    static ClubRolls notes149() {
        ClubRolls x = Checks.club("m0m9m9m9m9m9");
        for (int i = 0; i < 29; i++) {
            x.call(0, 63);
        }
        x.call(0, 31);
        return x;
    }

    /** All others sit in the roll 1 of 0; 5 has answered and is not told, and keeps 12 of their speeches, or fewer. */
    static ClubRolls keeper(int kept) {
        ClubRolls x = Checks.club("m0m0m0m0m0m0c063t01x05t01t01");
        x.cut(0, 5, false);
        for (int i = 0; i < kept; i++) {
            x.say(i / 4);
        }
        x.ticks(1);
        return x;
    }

    /**
     * Six members: 0 calls 0, 2 and 3, and is answered by 2; 1 is hushed and keeps 2 speeches; 2 is hushed; 3 has made
     * 4 speeches; 4 is gone; 5 sits alone behind 6 sessions. 14 states are remembered, the slot 0 alone is saved, and
     * the text is no club.
     */
    static ClubRolls busy() {
        ClubRolls x = Checks.club("m0m0m0c007t01x01t01t01s2s2t01m9s3s3s3s3m3g4p30");
        x.member(6);
        for (int i = 0; i < 6; i++) {
            x.say(5);
            x.call(5, 32);
        }
        x.save(0);
        x.say(5);
        x.call(0, 13);
        x.ticks(2);
        return Checks.write(x, "Rm0s0c");
    }

    /** As far as it goes, what calls tell of the state, and of what no call tells: answers, waits, what is kept. */
    static String told(ClubRolls x) {
        StringBuilder told = new StringBuilder(Checks.all(x));
        for (long seed : SEEDS) {
            told.append("\nsimulate ").append(x.simulate(seed, 60));
        }
        int everybody = (1 << x.about(0)) - 1;
        for (int m = 0; m < x.about(0); m++) {
            told.append("\nstands ").append(x.standsIn(m, everybody, 0)).append(" ").append(x.standsIn(m, everybody, 1));
        }
        return told.toString();
    }

    private static String answer(LongSupplier call) {
        try {
            return "answered " + call.getAsLong();
        } catch (IllegalStateException e) {
            return "refused";
        }
    }

    /** All that calls tell of an object: its state, the states remembered, the slots, and the text. It is used up. */
    static String traceOf(ClubRolls x) {
        StringBuilder trace = new StringBuilder(told(x));
        String undone = "";
        while (!undone.equals("refused")) {
            undone = answer(x::undo);
            trace.append("\nundo ").append(undone).append("\n").append(told(x));
        }
        for (int slot = 0; slot <= 1; slot++) {
            int one = slot;
            trace.append("\nrestore ").append(answer(() -> x.restore(one))).append("\n").append(told(x));
        }
        trace.append("\ntext ").append(x.errorPosition()).append("\nload ").append(answer(x::load)).append(told(x));
        return trace.append("\nclear ").append(x.clearText()).toString();
    }

    /** A club on which one more call has been made. */
    static Supplier<ClubRolls> behind(Supplier<ClubRolls> club, ToLongFunction<ClubRolls> call) {
        return () -> {
            ClubRolls x = club.get();
            call.applyAsLong(x);
            return x;
        };
    }

    /** The call throws what is due, and the object is as one that was not called. */
    static void refuses(Class<? extends RuntimeException> due, Supplier<ClubRolls> club, String what,
            ToLongFunction<ClubRolls> call) {
        ClubRolls x = club.get();
        Checks.throwsA(due, what, () -> call.applyAsLong(x));
        Checks.same("the object behind " + what, traceOf(x), traceOf(club.get()));
    }

    /** The call answers what is due, and the object is as one that was not called. */
    static void tells(Supplier<ClubRolls> club, String what, ToLongFunction<ClubRolls> call, long due) {
        ClubRolls x = club.get();
        Checks.due(what, call.applyAsLong(x), due);
        Checks.same("the object behind " + what, traceOf(x), traceOf(club.get()));
    }

    static void member(ClubRolls x, String when, int m, int what, int due) {
        Checks.due(when + ": memberOf(" + m + ", " + what + ")", x.memberOf(m, what), due);
    }

    static void about(ClubRolls x, String when, int what, int due) {
        Checks.due(when + ": about(" + what + ")", x.about(what), due);
    }

    static void note(ClubRolls x, String when, int k, int what, int due) {
        Checks.due(when + ": note(" + k + ", " + what + ")", x.note(k, what), due);
    }
}
