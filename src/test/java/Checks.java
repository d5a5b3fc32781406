import java.util.function.LongSupplier;

/** What the tests share: counts of what passed and failed, clubs made of texts, and the plain closing line. */
final class Checks {
    private static int passed;
    private static int failed;

    private Checks() {
    }

    static void due(String what, long got, long want) {
        note(got == want, what + " answered " + got + ", due is " + want);
    }

    /** The very class, so that what the machine throws (as ArrayIndexOutOfBoundsException) does not pass. */
    static void throwsA(Class<? extends RuntimeException> due, String what, LongSupplier call) {
        String got;
        try {
            got = "answered " + call.getAsLong();
        } catch (RuntimeException e) {
            got = e.getClass() == due ? "" : "threw " + e.getClass().getName();
        }
        note(got.isEmpty(), what + " " + got + ", due is " + due.getName());
    }

    static void outside(String what, LongSupplier call) {
        throwsA(IndexOutOfBoundsException.class, what, call);
    }

    static void wrong(String what, LongSupplier call) {
        throwsA(IllegalArgumentException.class, what, call);
    }

    static void refused(String what, LongSupplier call) {
        throwsA(IllegalStateException.class, what, call);
    }

    static void note(boolean good, String otherwise) {
        if (good) {
            passed++;
        } else {
            failed++;
            System.out.println("FAILED " + otherwise);
        }
    }

    static ClubRolls write(ClubRolls x, String text) {
        x.clearText();
        for (char c : text.toCharArray()) {
            x.append(c);
        }
        return x;
    }

    /** A club of a text without the R ahead; all of its commands are carried out. */
    static ClubRolls club(String commands) {
        ClubRolls x = write(new ClubRolls(), "R" + commands);
        due("load of R" + commands, x.load(), 0);
        return x;
    }

    /** Everything that the class tells of its state, but for the text, the slots and how much can be undone. */
    static String all(ClubRolls x) {
        StringBuilder all = new StringBuilder();
        for (int what = 0; what <= 9; what++) {
            all.append(x.about(what)).append(' ');
        }
        for (int m = 0; m < x.about(0); m++) {
            all.append("\n").append(m).append(": ");
            for (int what = 0; what <= 11; what++) {
                all.append(x.memberOf(m, what)).append(' ');
            }
            for (int k = 0; k < x.memberOf(m, 11); k++) {
                all.append("| ");
                for (int what = 0; what <= 2; what++) {
                    all.append(x.session(m, k, what)).append(' ');
                }
            }
            all.append("cut ");
            for (int other = 0; other < x.about(0); other++) {
                all.append(x.isCut(m, other));
            }
        }
        for (int k = 0; k < x.about(2); k++) {
            all.append("\n");
            for (int what = 0; what <= 5; what++) {
                all.append(x.note(k, what)).append(' ');
            }
        }
        return all.toString();
    }

    static void same(String what, String got, String want) {
        note(got.equals(want), what + ": is\n" + got + "\ndue is\n" + want);
    }

    static void end(String test) {
        System.out.println(test + ": " + passed + " passed, " + failed + " failed");
        if (failed > 0) {
            System.exit(1);
        }
    }
}
