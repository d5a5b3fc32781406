import java.util.Random;
import java.util.function.LongSupplier;

/** Random runs of calls (always the same ones), each call on ClubRolls and on PlainClub: both must answer alike. */
public final class RandomRunsTest {
    private static final int RUNS = 3000;
    private static final int CALLS = 500;

    private final Random random;
    private final ClubRolls x = new ClubRolls();
    private final PlainClub plain = new PlainClub();
    private final StringBuilder log = new StringBuilder();
    private final int style;

    private RandomRunsTest(int run) {
        random = new Random(run);
        style = run % 6;
    }

    public static void main(String[] args) {
        for (int run = 0; run < RUNS; run++) {
            RandomRunsTest it = new RandomRunsTest(run);
            String fault = it.run();
            Checks.note(fault.isEmpty(), "run " + run + ": " + fault);
            if (!fault.isEmpty()) {
                break;
            }
        }
        Checks.end("RandomRunsTest");
    }

    private String run() {
        int first = style == 5 ? 0 : 2 + random.nextInt(5);
        for (int i = 0; i < first; i++) {
            int place = style == 1 ? random.nextInt(2) : random.nextInt(10);
            String fault = compare("member(" + place + ")", () -> x.member(place), () -> plain.member(place));
            if (!fault.isEmpty()) {
                return fault;
            }
        }
        for (int i = 0; i < CALLS; i++) {
            String fault = oneCall();
            if (!fault.isEmpty()) {
                return fault;
            }
        }
        return "";
    }

    private String compare(String call, LongSupplier real, LongSupplier due) {
        String got = outcome(real);
        String want = outcome(due);
        log.append(call).append(" ").append(got).append("; ");
        return got.equals(want) ? "" : log + " but due is " + want;
    }

    private static String outcome(LongSupplier call) {
        try {
            return "" + call.getAsLong();
        } catch (RuntimeException e) {
            return e.getClass().getName();
        }
    }

    private int any(int n) {
        return random.nextInt(n);
    }

    /** Seldom a number from anywhere. */
    private int extreme(int otherwise) {
        int[] ends = {Integer.MIN_VALUE, Integer.MAX_VALUE, Integer.MIN_VALUE + 1, 1 << 16, -1, 32, 33, 64, 128};
        return any(60) > 0 ? otherwise : any(2) == 0 ? random.nextInt() : ends[any(ends.length)];
    }

    /** Mostly a member that there is. */
    private int someone() {
        return extreme(any(30) == 0 ? any(10) - 2 : any(Math.max(1, x.about(0))));
    }

    private int someSet(int m) {
        if (any(20) == 0) {
            return extreme(any(100) - 10);
        }
        int everybody = (1 << x.about(0)) - 1;
        return any(3) == 0 ? everybody : any(64) & everybody | (m >= 0 && m < 6 ? 1 << m : 0);
    }

    private String oneCall() {
        int kind = any(100);
        int m = someone();
        int b = someone();
        int set = someSet(m);
        int what = extreme(any(40) == 0 ? any(20) - 4 : any(12));
        if (kind < 22) {
            return compare("say(" + m + ")", () -> x.say(m), () -> plain.say(m));
        } else if (kind < (style == 2 ? 34 : 28)) {
            return compare("call(" + m + "," + set + ")", () -> x.call(m, set), () -> plain.call(m, set));
        } else if (kind < (style == 3 ? 38 : 44)) {
            int n = extreme(any(30) == 0 ? any(70) - 2 : 1 + any(style == 1 ? 2 : 9));
            return compare("ticks(" + n + ")", () -> x.ticks(n), () -> plain.ticks(n));
        } else if (kind < 46) {
            boolean cut = any(3) == 0;
            return compare("cut(" + m + "," + b + "," + cut + ")", () -> x.cut(m, b, cut), () -> plain.cut(m, b, cut));
        } else if (kind < 48) {
            return compare("leave(" + m + ")", () -> x.leave(m), () -> plain.leave(m));
        } else if (kind < 51) {
            return compare("back(" + m + ")", () -> x.back(m), () -> plain.back(m));
        } else if (kind < 53) {
            int v = extreme(style == 4 ? 1 + any(6) : any(3) == 0 ? 0 : any(44) - 1);
            return compare("set(" + v + ")", () -> x.set(v), () -> plain.set(v));
        } else if (kind < 56) {
            return compare("undo()", x::undo, plain::undo);
        } else if (kind < 57) {
            int place = extreme(any(12) - 1);
            return compare("member(" + place + ")", () -> x.member(place), () -> plain.member(place));
        } else if (kind < 64) {
            int w = extreme(any(20) == 0 ? any(5) - 1 : any(2));
            return compare("standsIn(" + m + "," + set + "," + w + ")", () -> x.standsIn(m, set, w),
                () -> plain.standsIn(m, set, w));
        }
        return oneQuestion(kind, m, b, what);
    }

    private String oneQuestion(int kind, int m, int b, int what) {
        if (kind < 68) {
            return compare("about(" + what + ")", () -> x.about(what), () -> plain.about(what));
        } else if (kind < 75) {
            return compare("memberOf(" + m + "," + what + ")", () -> x.memberOf(m, what), () -> plain.memberOf(m, what));
        } else if (kind < 79) {
            int k = extreme(any(7) - 1);
            int w = extreme(any(5) - 1);
            return compare("session(" + m + "," + k + "," + w + ")", () -> x.session(m, k, w),
                () -> plain.session(m, k, w));
        } else if (kind < 83) {
            int k = extreme(any(x.about(2) + 2) - 1);
            int w = extreme(any(8) - 1);
            return compare("note(" + k + "," + w + ")", () -> x.note(k, w), () -> plain.note(k, w));
        } else if (kind < 84) {
            return compare("isCut(" + m + "," + b + ")", () -> x.isCut(m, b), () -> plain.isCut(m, b));
        } else if (kind < 87) {
            int w = extreme(any(20) == 0 ? any(5) - 1 : any(2));
            return compare("compare(" + m + "," + b + "," + w + ")", () -> x.compare(m, b, w),
                () -> plain.compare(m, b, w));
        } else if (kind < 90) {
            return compare("lacks(" + m + ")", () -> x.lacks(m), () -> plain.lacks(m));
        } else if (kind < 92) {
            return compare("together()", x::together, plain::together);
        } else if (kind < 94) {
            int count = any(20) == 0 ? any(6) - 1 : 1 + any(3);
            int n = extreme(count);
            long script = any(60) == 0 ? random.nextLong() : someScript(count);
            return compare("runScript(" + n + "," + script + ")", () -> x.runScript(n, script),
                () -> plain.runScript(n, script));
        } else if (kind < 96) {
            long seed = random.nextLong();
            int n = extreme(any(20) == 0 ? any(70) - 5 : 1 + any(60));
            return compare("simulate(" + seed + "," + n + ")", () -> x.simulate(seed, n), () -> plain.simulate(seed, n));
        } else if (kind < 97) {
            int slot = extreme(any(8) == 0 ? any(5) - 2 : any(2));
            return compare("save(" + slot + ")", () -> x.save(slot), () -> plain.save(slot));
        } else if (kind < 98) {
            int slot = extreme(any(8) == 0 ? any(5) - 2 : any(2));
            return any(4) > 0 ? "" : compare("restore(" + slot + ")", () -> x.restore(slot), () -> plain.restore(slot));
        }
        return style == 5 ? someText() : everything();
    }

    private String everything() {
        String fault = "";
        for (int what = 0; what <= 9 && fault.isEmpty(); what++) {
            int w = what;
            fault = compare("about(" + w + ")", () -> x.about(w), () -> plain.about(w));
        }
        for (int i = 0; i < x.about(0) * 12 && fault.isEmpty(); i++) {
            int m = i / 12;
            int w = i % 12;
            fault = compare("memberOf(" + m + "," + w + ")", () -> x.memberOf(m, w), () -> plain.memberOf(m, w));
        }
        for (int i = 0; i < x.about(2) * 6 && fault.isEmpty(); i++) {
            int k = i / 6;
            int w = i % 6;
            fault = compare("note(" + k + "," + w + ")", () -> x.note(k, w), () -> plain.note(k, w));
        }
        return fault;
    }

    /** A number of n groups, each mostly a command that a script allows; now and then a digit too many. */
    private long someScript(int n) {
        long script = 0;
        for (int i = 0; i < n; i++) {
            int kind = any(10);
            int m = any(7);
            int b = any(15) == 0 || kind == 3 || kind == 9 ? any(7) : 0;
            int last = kind == 1 ? 0 : kind == 3 ? 10 * any(2) : kind == 4 || kind == 9 ? any(2) : any(64);
            if (kind == 5) {
                m = 0;
            } else if (kind >= 6) {
                last = any(4);
            }
            if (any(15) == 0) {
                last = any(100);
            }
            script = script * 100000 + kind * 10000 + m * 1000 + b * 100 + last;
        }
        return any(30) == 0 ? script * 10 + any(3) : any(60) == 0 ? -script : script;
    }

    private String someText() {
        String fault = compare("clearText()", x::clearText, plain::clearText);
        StringBuilder text = new StringBuilder(any(20) == 0 ? "" : "Rm" + any(10) + "m" + any(10));
        int size = any(60);
        while (text.length() < size * 2) {
            text.append(someCommand());
        }
        if (any(3) == 0) {
            text.append((char) any(256));
        }
        for (int i = 0; i < text.length() && fault.isEmpty(); i++) {
            int c = text.charAt(i);
            fault = compare("append(" + c + ")", () -> x.append(c), () -> plain.append(c));
        }
        if (fault.isEmpty()) {
            fault = compare("errorPosition()", x::errorPosition, plain::errorPosition);
        }
        return fault.isEmpty() ? compare("load()", x::load, plain::load) : fault;
    }

    private String someCommand() {
        int m = any(60) == 0 ? 6 : any(5);
        int set = any(64);
        switch ("mssscxgbptttt".charAt(any(13))) {
            case 'm': return "m" + any(10);
            case 's': return "s" + m;
            case 'c': return "c" + m + set / 10 + set % 10;
            case 'x': return "x" + m + any(6);
            case 'g': return "g" + m;
            case 'b': return "b" + m;
            case 'p': return "p" + (any(10) == 0 ? "41" : any(4) + "" + any(10));
            default: return "t" + (any(40) == 0 ? any(7) : 0) + any(10);
        }
    }
}
