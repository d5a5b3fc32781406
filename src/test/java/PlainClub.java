import java.util.ArrayDeque;
import java.util.ArrayList;
import java.util.Comparator;
import java.util.List;
import java.util.Objects;
import java.util.TreeMap;
import java.util.TreeSet;

/** The document once more, written with the Java library and with no thought of space: the random runs compare. */
final class PlainClub {
    record Roll(int number, int caller, TreeSet<Integer> members) {
        boolean same(Roll other) {
            return number == other.number && caller == other.caller;
        }
    }

    record Speech(Roll roll, int bit) {
    }

    record Over(Roll roll, TreeSet<Integer> heard) {
    }

    record Note(char kind, int from, int to, int time, int sent, Roll roll, int bit, Roll own, TreeSet<Integer> heard) {
    }

    static final class Member {
        int place;
        String is = "sits";
        Roll roll;
        TreeSet<Integer> heard = new TreeSet<>();
        int promise;
        int speeches;
        Roll calls;
        int since;
        TreeMap<Integer, Over> answers = new TreeMap<>();
        List<Speech> kept = new ArrayList<>();
        List<Over> over = new ArrayList<>();

        Member copy() {
            Member c = new Member();
            c.place = place;
            c.is = is;
            c.roll = roll;
            c.heard = new TreeSet<>(heard);
            c.promise = promise;
            c.speeches = speeches;
            c.calls = calls;
            c.since = since;
            c.answers = new TreeMap<>(answers);
            c.kept = new ArrayList<>(kept);
            c.over = new ArrayList<>(over);
            return c;
        }
    }

    static final class State {
        List<Member> members = new ArrayList<>();
        List<Note> notes = new ArrayList<>();
        TreeSet<String> cut = new TreeSet<>();
        int time;
        int lost;
        int speeches;
        int late;
        int stood;
        int patience;
        int sent;

        State copy() {
            State c = new State();
            members.forEach(m -> c.members.add(m.copy()));
            c.notes = new ArrayList<>(notes);
            c.cut = new TreeSet<>(cut);
            c.time = time;
            c.lost = lost;
            c.speeches = speeches;
            c.late = late;
            c.stood = stood;
            c.patience = patience;
            c.sent = sent;
            return c;
        }
    }

    State now = new State();
    ArrayDeque<State> before = new ArrayDeque<>();
    State[] slots = new State[2];
    String text = "";

    static int bits(Iterable<Integer> set) {
        int all = 0;
        for (int i : set) {
            all |= 1 << i;
        }
        return all;
    }

    static TreeSet<Integer> setOf(int bits) {
        TreeSet<Integer> set = new TreeSet<>();
        for (int i = 0; i < 32; i++) {
            if ((bits >>> i & 1) == 1) {
                set.add(i);
            }
        }
        return set;
    }

    private void outside(boolean when) {
        if (when) {
            throw new IndexOutOfBoundsException();
        }
    }

    private void wrong(boolean when) {
        if (when) {
            throw new IllegalArgumentException();
        }
    }

    private void refuse(boolean when) {
        if (when) {
            throw new IllegalStateException();
        }
    }

    private Member get(int m) {
        outside(m < 0 || m >= now.members.size());
        return now.members.get(m);
    }

    private void action() {
        before.addLast(now.copy());
        if (before.size() > 14) {
            before.removeFirst();
        }
    }

    int append(int c) {
        wrong(c < 0 || c > 255);
        refuse(text.length() == 120);
        text += (char) c;
        return text.length();
    }

    int clearText() {
        int n = text.length();
        text = "";
        return n;
    }

    private static final String[] FORMS = {"m%[0-9]", "s%[0-5]", "c%[0-5]%#01-63", "x%[0-5]%[0-5]", "g%[0-5]", "b%[0-5]",
        "p%#00-40", "t%#01-60"};

    /** All texts of one command, so that a prefix is looked for in the list. */
    private static final List<String> COMMANDS = commands();

    private static List<String> commands() {
        List<String> all = new ArrayList<>();
        for (String form : FORMS) {
            List<String> made = new ArrayList<>(List.of(form.substring(0, 1)));
            for (String part : form.substring(2).split("%")) {
                List<String> longer = new ArrayList<>();
                int low = part.charAt(0) == '#' ? Integer.parseInt(part.substring(1, 3)) : part.charAt(1) - '0';
                int high = part.charAt(0) == '#' ? Integer.parseInt(part.substring(4, 6)) : part.charAt(3) - '0';
                for (String one : made) {
                    for (int i = low; i <= high; i++) {
                        longer.add(one + (part.charAt(0) == '#' && i < 10 ? "0" : "") + i);
                    }
                }
                made = longer;
            }
            all.addAll(made);
        }
        return all;
    }

    private int read(List<String> into) {
        if (!text.startsWith("R")) {
            return 0;
        }
        int from = 1;
        for (int i = 1; i < text.length(); i++) {
            String part = text.substring(from, i + 1);
            if (COMMANDS.stream().noneMatch(c -> c.startsWith(part))) {
                return i;
            }
            if (COMMANDS.contains(part)) {
                into.add(part);
                from = i + 1;
            }
        }
        return from == text.length() ? -1 : text.length();
    }

    int errorPosition() {
        return read(new ArrayList<>());
    }

    int load() {
        List<String> commands = new ArrayList<>();
        refuse(read(commands) != -1);
        now = new State();
        int left = 0;
        for (String c : commands) {
            int d = c.charAt(1) - '0';
            int rest = Integer.parseInt(c.substring(1));
            try {
                switch (c.charAt(0)) {
                    case 'm' -> member(d);
                    case 's' -> say(d);
                    case 'c' -> call(d, rest % 100);
                    case 'x' -> cut(d, rest % 10, true);
                    case 'g' -> leave(d);
                    case 'b' -> back(d);
                    case 'p' -> set(rest);
                    default -> ticks(rest);
                }
            } catch (RuntimeException e) {
                left++;
            }
        }
        before.clear();
        slots = new State[2];
        return left;
    }

    private int who(String is) {
        int set = 0;
        for (int m = 0; m < now.members.size(); m++) {
            set |= now.members.get(m).is.equals(is) ? 1 << m : 0;
        }
        return set;
    }

    int about(int what) {
        wrong(what < 0 || what > 9);
        int[] all = {now.members.size(), now.time, now.notes.size(), now.lost, now.speeches, now.late, now.stood,
            who("sits"), who("gone"), now.patience};
        return all[what];
    }

    int memberOf(int m, int what) {
        Member it = get(m);
        wrong(what < 0 || what > 11);
        int[] all = {it.place, List.of("sits", "hushed", "gone").indexOf(it.is), it.roll.number, it.roll.caller,
            bits(it.roll.members), bits(it.heard), it.promise, it.speeches, it.calls == null ? 0 : bits(it.calls.members),
            it.calls == null ? 0 : bits(it.answers.keySet()), it.kept.size(), it.over.size()};
        return all[what];
    }

    int session(int m, int k, int what) {
        Member it = get(m);
        outside(k < 0 || k >= it.over.size());
        wrong(what < 0 || what > 2);
        Over o = it.over.get(k);
        return what == 0 ? o.roll.number : what == 1 ? o.roll.caller : bits(o.heard);
    }

    int note(int k, int what) {
        outside(k < 0 || k >= now.notes.size());
        wrong(what < 0 || what > 5);
        List<Note> inOrder = new ArrayList<>(now.notes);
        inOrder.sort(Comparator.comparingInt(Note::time).thenComparingInt(Note::sent));
        Note n = inOrder.get(k);
        int told = n.kind == 's' ? n.bit : n.kind == 'c' ? bits(n.roll.members) : bits(n.heard);
        int[] all = {"scar".indexOf(n.kind), n.from, n.to, n.time, n.roll.number, told};
        return all[what];
    }

    private static String way(int a, int b) {
        return Math.min(a, b) + "-" + Math.max(a, b);
    }

    int isCut(int a, int b) {
        get(a);
        get(b);
        return now.cut.contains(way(a, b)) ? 1 : 0;
    }

    int member(int place) {
        wrong(place < 0 || place > 9);
        refuse(now.members.size() == 6);
        action();
        Member it = new Member();
        int m = now.members.size();
        it.place = place;
        it.roll = new Roll(0, m, setOf(1 << m));
        now.members.add(it);
        return m;
    }

    private void send(char kind, int from, int to, Roll roll, int bit, Roll own, TreeSet<Integer> heard) {
        if (now.cut.contains(way(from, to)) || now.notes.size() == 150) {
            now.lost++;
            return;
        }
        int far = Math.abs(now.members.get(from).place - now.members.get(to).place);
        now.notes.add(new Note(kind, from, to, now.time + far + 1, now.sent++, roll, bit, own, heard));
    }

    int say(int m) {
        Member it = get(m);
        refuse(!it.is.equals("sits") || it.speeches == 4);
        action();
        int bit = 4 * m + it.speeches++;
        it.heard.add(bit);
        now.speeches++;
        for (int to : it.roll.members) {
            if (to != m) {
                send('s', m, to, it.roll, bit, null, null);
            }
        }
        return bit;
    }

    private void checkSet(int m, int set) {
        wrong(set < 0 || set >= 1 << now.members.size() || !setOf(set).contains(m));
    }

    int call(int m, int set) {
        Member it = get(m);
        checkSet(m, set);
        refuse(it.is.equals("gone"));
        action();
        return calls(m, setOf(set));
    }

    private int calls(int m, TreeSet<Integer> set) {
        Member it = now.members.get(m);
        it.promise++;
        it.is = "hushed";
        it.calls = new Roll(it.promise, m, set);
        it.since = now.time;
        it.answers.clear();
        it.answers.put(m, new Over(it.roll, new TreeSet<>(it.heard)));
        for (int to : set) {
            if (to != m) {
                send('c', m, to, it.calls, 0, null, null);
            }
        }
        int number = it.promise;
        lookWhetherAllAnswered(m);
        return number;
    }

    private void lookWhetherAllAnswered(int m) {
        Member it = now.members.get(m);
        if (!it.answers.keySet().equals(it.calls.members)) {
            return;
        }
        now.stood++;
        Roll roll = it.calls;
        TreeMap<Integer, Over> answers = new TreeMap<>(it.answers);
        TreeMap<Integer, TreeSet<Integer>> told = new TreeMap<>();
        for (int who : roll.members) {
            TreeSet<Integer> together = new TreeSet<>();
            for (Over answer : answers.values()) {
                if (answer.roll.same(answers.get(who).roll)) {
                    together.addAll(answer.heard);
                }
            }
            told.put(who, together);
        }
        isTold(it, roll, told.get(m));
        for (int to : roll.members) {
            if (to != m) {
                send('r', m, to, roll, 0, null, told.get(to));
            }
        }
    }

    private void isTold(Member it, Roll roll, TreeSet<Integer> told) {
        if (roll.number < it.promise || roll.number <= it.roll.number) {
            return;
        }
        it.calls = null;
        newSession(it, roll, told);
        for (Speech kept : it.kept) {
            if (kept.roll.same(roll)) {
                it.heard.add(kept.bit);
            }
        }
        it.kept.removeIf(kept -> kept.roll.number <= roll.number);
    }

    private void newSession(Member it, Roll roll, TreeSet<Integer> heard) {
        it.over.add(new Over(it.roll, heard));
        if (it.over.size() > 5) {
            it.over.remove(0);
        }
        it.roll = roll;
        it.is = "sits";
        it.heard = new TreeSet<>();
        it.speeches = 0;
    }

    int cut(int a, int b, boolean cut) {
        get(a);
        get(b);
        wrong(a == b);
        action();
        if (cut) {
            now.cut.add(way(a, b));
        } else {
            now.cut.remove(way(a, b));
        }
        return now.cut.size();
    }

    int leave(int m) {
        refuse(get(m).is.equals("gone"));
        action();
        Member it = get(m);
        it.is = "gone";
        it.calls = null;
        it.kept.clear();
        return it.roll.number;
    }

    int back(int m) {
        refuse(!get(m).is.equals("gone"));
        action();
        Member it = get(m);
        it.promise++;
        newSession(it, new Roll(it.promise, m, setOf(1 << m)), it.heard);
        return it.roll.number;
    }

    int set(int v) {
        wrong(v < 0 || v > 40);
        action();
        int was = now.patience;
        now.patience = v;
        return was;
    }

    int ticks(int n) {
        wrong(n < 1 || n > 60);
        action();
        int stood = now.stood;
        for (int i = 0; i < n; i++) {
            tick();
        }
        return now.stood - stood;
    }

    private void tick() {
        now.time++;
        List<Note> due = new ArrayList<>(now.notes);
        due.removeIf(n -> n.time != now.time);
        due.sort(Comparator.comparingInt(Note::sent));
        for (Note n : due) {
            now.notes.remove(n);
            comes(n);
        }
        for (int m = 0; m < now.members.size(); m++) {
            Member it = now.members.get(m);
            if (now.patience > 0 && it.calls != null && now.time >= it.since + now.patience) {
                calls(m, new TreeSet<>(it.answers.keySet()));
            }
        }
    }

    private void comes(Note n) {
        Member it = now.members.get(n.to);
        if (it.is.equals("gone")) {
            now.lost++;
        } else if (n.kind == 's') {
            if (it.is.equals("sits") && it.roll.same(n.roll)) {
                it.heard.add(n.bit);
            } else if (n.roll.number > it.roll.number && it.kept.size() < 12) {
                it.kept.add(new Speech(n.roll, n.bit));
            } else {
                now.late++;
            }
        } else if (n.kind == 'c') {
            if (n.roll.number > it.promise) {
                it.promise = n.roll.number;
                it.is = "hushed";
                it.calls = null;
                send('a', n.to, n.from, n.roll, 0, it.roll, new TreeSet<>(it.heard));
            }
        } else if (n.kind == 'a') {
            if (it.calls != null && it.calls.same(n.roll)) {
                it.answers.put(n.from, new Over(n.own, n.heard));
                lookWhetherAllAnswered(n.to);
            }
        } else {
            isTold(it, n.roll, n.heard);
        }
    }

    int undo() {
        refuse(before.isEmpty());
        now = before.removeLast();
        return before.size();
    }

    private PlainClub trial() {
        PlainClub c = new PlainClub();
        c.now = now.copy();
        return c;
    }

    int standsIn(int m, int set, int what) {
        Member it = get(m);
        wrong(what != 0 && what != 1);
        checkSet(m, set);
        if (it.is.equals("gone")) {
            return -1;
        }
        PlainClub c = trial();
        Roll roll = new Roll(c.call(m, set), m, setOf(set));
        for (int t = 0; t <= 100; t++) {
            if (t > 0) {
                c.tick();
            }
            boolean all = true;
            for (int who : what == 0 ? setOf(1 << m) : roll.members) {
                Member x = c.now.members.get(who);
                all &= x.roll.same(roll) && (what == 0 || x.is.equals("sits"));
            }
            if (all) {
                return t;
            }
        }
        return -1;
    }

    int compare(int a, int b, int what) {
        get(a);
        get(b);
        wrong(what != 0 && what != 1);
        int n = 0;
        for (Over x : get(a).over) {
            for (Over y : get(b).over) {
                if (x.roll.same(y.roll) && (what == 0 || !Objects.equals(x.heard, y.heard))) {
                    n++;
                }
            }
        }
        return n;
    }

    int lacks(int m) {
        Member it = get(m);
        TreeSet<Integer> missed = new TreeSet<>();
        for (int other : it.roll.members) {
            if (other != m && get(other).roll.same(it.roll)) {
                missed.addAll(get(other).heard);
            }
        }
        missed.removeAll(it.heard);
        return missed.size();
    }

    int together() {
        List<TreeSet<Integer>> groups = new ArrayList<>();
        for (int m = 0; m < now.members.size(); m++) {
            if (get(m).is.equals("gone")) {
                continue;
            }
            boolean found = false;
            for (TreeSet<Integer> g : groups) {
                if (get(g.first()).roll.same(get(m).roll)) {
                    g.add(m);
                    found = true;
                }
            }
            if (!found) {
                groups.add(setOf(1 << m));
            }
        }
        return groups.stream().max(Comparator.<TreeSet<Integer>>comparingInt(TreeSet::size)
            .thenComparing(g -> -g.first())).map(PlainClub::bits).orElse(0);
    }

    int runScript(int n, long script) {
        wrong(n < 1 || n > 3);
        String digits = Long.toString(script);
        wrong(script < 0 || digits.length() > 5 * n);
        digits = "0".repeat(5 * n - digits.length()) + digits;
        PlainClub c = trial();
        for (int i = 0; i < n; i++) {
            boolean good;
            try {
                good = c.succeeds(digits.substring(5 * i, 5 * i + 5));
            } catch (RuntimeException e) {
                good = false;
            }
            if (!good) {
                return i;
            }
        }
        return -1;
    }

    private boolean succeeds(String g) {
        int m = g.charAt(1) - '0';
        int second = g.charAt(2) - '0';
        int last = g.charAt(4) - '0';
        int lastTwo = Integer.parseInt(g.substring(3));
        if (g.matches("1.000")) {
            say(m);
        } else if (g.matches("2.0..")) {
            call(m, lastTwo);
        } else if (g.matches("3..[01]0")) {
            cut(m, second, g.charAt(3) == '1');
        } else if (g.matches("4.000")) {
            leave(m);
        } else if (g.matches("4.001")) {
            back(m);
        } else if (g.matches("500..")) {
            ticks(lastTwo);
        } else if (g.matches("6.0..")) {
            return get(m).roll.number >= lastTwo;
        } else if (g.matches("7.00.")) {
            return memberOf(m, 1) == last;
        } else if (g.matches("8.0..")) {
            return get(m).heard.size() >= lastTwo;
        } else if (g.matches("9..0.")) {
            return compare(m, second, 1) <= last;
        } else {
            return false;
        }
        return true;
    }

    int simulate(long seed, int n) {
        wrong(n < 1 || n > 60);
        PlainClub c = trial();
        long x = seed;
        for (int i = 0; i < n; i++) {
            x = x * 6364136223846793005L + 1442695040888963407L;
            int r = (int) (x >>> 33);
            try {
                c.turn(r % 16, r / 16);
            } catch (RuntimeException e) {
                // left out
            }
        }
        return 10000 * (c.now.stood - now.stood) + 100 * (c.now.speeches - now.speeches)
            + Math.min(99, c.now.late - now.late);
    }

    private void turn(int kind, int q) {
        int m = q % 6;
        if (kind == 0) {
            member(q % 10);
        } else if (kind <= 5) {
            say(m);
        } else if (kind <= 7) {
            TreeSet<Integer> set = setOf(q / 8 % 64);
            set.removeIf(who -> who >= now.members.size());
            set.add(m);
            call(m, bits(set));
        } else if (kind == 8) {
            cut(m, q / 6 % 6, q / 64 % 3 == 0);
        } else if (kind == 9 && q / 8 % 3 == 0) {
            leave(m);
        } else if (kind == 9) {
            back(m);
        } else if (kind == 10) {
            set(q % 41);
        } else {
            ticks(1 + q % 8);
        }
    }

    int save(int slot) {
        outside(slot != 0 && slot != 1);
        slots[slot] = now.copy();
        return now.time;
    }

    int restore(int slot) {
        outside(slot != 0 && slot != 1);
        refuse(slots[slot] == null);
        now = slots[slot].copy();
        before.clear();
        return now.time;
    }
}
