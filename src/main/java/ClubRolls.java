/** The roll of a debating club whose members hear each other by notes (README.md tells how to use it). */
public final class ClubRolls {
    public static final int NONE = -1;

    private static final int MOST_MEMBERS = 6;
    private static final int MOST_PLACE = 9;
    private static final int MOST_SPEECHES = 4;
    private static final int MOST_NOTES = 150;
    private static final int MOST_KEPT = 12;
    private static final int MOST_SESSIONS = 5;
    private static final int MOST_STATES = 14;
    private static final int MOST_SIGNS = 120;
    private static final int MOST_SIGN = 255;
    private static final int MOST_PATIENCE = 40;
    private static final int MOST_TICKS = 60;
    private static final int MOST_TURNS = 60;
    private static final int MOST_COMMANDS = 3;
    private static final int MOST_LATE_TOLD = 99;
    private static final int LAST_TICK_LOOKED_AT = 100;
    private static final int SLOTS = 2;

    private static final int SITS = 0;
    private static final int HUSHED = 1;
    private static final int GONE = 2;

    private static final int SPEECH_NOTE = 0;
    private static final int CALL_NOTE = 1;
    private static final int ANSWER_NOTE = 2;
    private static final int STANDS_NOTE = 3;

    // The columns of a note; the first six are those that note() tells, by the same numbers.
    private static final int KIND = 0;
    private static final int FROM = 1;
    private static final int TO = 2;
    private static final int TIME = 3;
    private static final int NUMBER = 4;
    private static final int VALUE = 5;
    private static final int SENDER_NUMBER = 6;
    private static final int SENDER_CALLER = 7;
    private static final int SENDER_MEMBERS = 8;
    private static final int COLUMNS = 9;
    private static final int COLUMNS_TOLD = 6;

    // The commands of texts, scripts and simulations; those of a text have its letter.
    private static final int ADD_MEMBER = 'm';
    private static final int SPEAK = 's';
    private static final int CALL_ROLL = 'c';
    private static final int CUT_WAY = 'x';
    private static final int GO_AWAY = 'g';
    private static final int COME_BACK = 'b';
    private static final int SET_PATIENCE = 'p';
    private static final int LET_TICKS_GO = 't';
    private static final int MEND_WAY = 0;

    private static final int GROUP = 100000;
    private static final long TWO_GROUPS = 10000000000L;
    private static final long FACTOR = 6364136223846793005L;
    private static final long SUMMAND = 1442695040888963407L;

    private final Text text;
    private final Club club;
    private final Club newClub;
    private final Club trial;
    private final History history;
    private final Club[] slots;
    private final boolean[] isSaved;

    public ClubRolls() {
        text = new Text();
        club = new Club();
        newClub = new Club();
        trial = new Club();
        history = new History();
        slots = new Club[SLOTS];
        for (int i = 0; i < SLOTS; i++) {
            slots[i] = new Club();
        }
        isSaved = new boolean[SLOTS];
    }

    // ---- text

    public int append(int c) throws IllegalArgumentException, IllegalStateException {
        if (c < 0 || c > MOST_SIGN) {
            throw new IllegalArgumentException("the character is not 0 to 255");
        }
        if (text.length >= MOST_SIGNS) {
            throw new IllegalStateException("the text has 120 characters");
        }
        text.addSign(c);
        return text.length;
    }

    public int clearText() {
        int before = text.length;
        text.length = 0;
        return before;
    }

    public int errorPosition() {
        return text.firstError();
    }

    public int load() throws IllegalStateException {
        if (text.firstError() != NONE) {
            throw new IllegalStateException("the text is not a club");
        }
        club.copyFrom(newClub);
        history.count = 0;
        for (int i = 0; i < SLOTS; i++) {
            isSaved[i] = false;
        }
        int leftOut = 0;
        for (int at = 1; at < text.length; at += 1 + text.digitsBehind(at)) {
            if (!club.carryOut(text.signAt(at), text.firstNumber(at), text.secondNumber(at))) {
                leftOut++;
            }
        }
        return leftOut;
    }

    // ---- what there is

    public int about(int what) throws IllegalArgumentException {
        switch (what) {
            case 0: return club.count;
            case 1: return club.time;
            case 2: return club.post.count;
            case 3: return club.post.lost;
            case 4: return club.speeches;
            case 5: return club.late;
            case 6: return club.stood;
            case 7: return club.whoAre(SITS);
            case 8: return club.whoAre(GONE);
            case 9: return club.patience;
            default: throw new IllegalArgumentException("what is not 0 to 9");
        }
    }

    public int memberOf(int m, int what) throws IndexOutOfBoundsException, IllegalArgumentException {
        checkMember(m);
        Member it = club.members[m];
        switch (what) {
            case 0: return it.place;
            case 1: return it.presence;
            case 2: return it.rollNumber;
            case 3: return it.rollCaller;
            case 4: return it.rollMembers;
            case 5: return it.heard;
            case 6: return it.promise;
            case 7: return it.speeches;
            case 8: return it.calledSet;
            case 9: return it.answered;
            case 10: return it.kept.count;
            case 11: return it.sessions.count;
            default: throw new IllegalArgumentException("what is not 0 to 11");
        }
    }

    public int session(int m, int k, int what) throws IndexOutOfBoundsException, IllegalArgumentException {
        checkMember(m);
        Reports sessions = club.members[m].sessions;
        if (k < 0 || k >= sessions.count) {
            throw new IndexOutOfBoundsException("there is no such session");
        }
        switch (what) {
            case 0: return sessions.number[k];
            case 1: return sessions.caller[k];
            case 2: return sessions.heard[k];
            default: throw new IllegalArgumentException("what is not 0 to 2");
        }
    }

    public int note(int k, int what) throws IndexOutOfBoundsException, IllegalArgumentException {
        if (k < 0 || k >= club.post.count) {
            throw new IndexOutOfBoundsException("there is no such note");
        }
        if (what < 0 || what >= COLUMNS_TOLD) {
            throw new IllegalArgumentException("what is not 0 to 5");
        }
        return club.post.rows[k * COLUMNS + what];
    }

    public int isCut(int a, int b) throws IndexOutOfBoundsException {
        checkMember(a);
        checkMember(b);
        return club.post.isCutBetween(a, b) ? 1 : 0;
    }

    // ---- actions

    public int member(int place) throws IllegalArgumentException, IllegalStateException {
        if (!isPlace(place)) {
            throw new IllegalArgumentException("the place is not 0 to 9");
        }
        if (club.count >= MOST_MEMBERS) {
            throw new IllegalStateException("there are 6 members");
        }
        history.remember(club);
        return club.addMember(place);
    }

    public int say(int m) throws IndexOutOfBoundsException, IllegalStateException {
        checkMember(m);
        if (!club.members[m].maySpeak()) {
            throw new IllegalStateException("the member does not sit, or made 4 speeches");
        }
        history.remember(club);
        return club.speak(m);
    }

    public int call(int m, int set) throws IndexOutOfBoundsException, IllegalArgumentException, IllegalStateException {
        checkMember(m);
        if (!club.isRollWith(m, set)) {
            throw new IllegalArgumentException("the set has members that there are not, or lacks the caller");
        }
        if (club.isGone(m)) {
            throw new IllegalStateException("the member is gone");
        }
        history.remember(club);
        return club.callRoll(m, set);
    }

    public int cut(int a, int b, boolean cut) throws IndexOutOfBoundsException, IllegalArgumentException {
        checkMember(a);
        checkMember(b);
        if (a == b) {
            throw new IllegalArgumentException("there is no way from a member to itself");
        }
        history.remember(club);
        club.post.changeWay(a, b, cut);
        return club.post.cutWays;
    }

    public int leave(int m) throws IndexOutOfBoundsException, IllegalStateException {
        checkMember(m);
        if (club.isGone(m)) {
            throw new IllegalStateException("the member is gone");
        }
        history.remember(club);
        club.members[m].goAway();
        return club.members[m].rollNumber;
    }

    public int back(int m) throws IndexOutOfBoundsException, IllegalStateException {
        checkMember(m);
        if (!club.isGone(m)) {
            throw new IllegalStateException("the member is not gone");
        }
        history.remember(club);
        club.members[m].comeBack();
        return club.members[m].rollNumber;
    }

    public int set(int v) throws IllegalArgumentException {
        if (!isPatience(v)) {
            throw new IllegalArgumentException("the patience is not 0 to 40");
        }
        history.remember(club);
        int before = club.patience;
        club.patience = v;
        return before;
    }

    public int ticks(int n) throws IllegalArgumentException {
        if (!areTicks(n)) {
            throw new IllegalArgumentException("the ticks are not 1 to 60");
        }
        history.remember(club);
        int before = club.stood;
        club.letTicksGo(n);
        return club.stood - before;
    }

    public int undo() throws IllegalStateException {
        if (history.count <= 0) {
            throw new IllegalStateException("no state is remembered");
        }
        club.copyFrom(history.takeLast());
        return history.count;
    }

    // ---- what would be

    public int standsIn(int m, int set, int what) throws IndexOutOfBoundsException, IllegalArgumentException {
        checkMember(m);
        if (what < 0 || what > 1 || !club.isRollWith(m, set)) {
            throw new IllegalArgumentException("what is not 0 or 1, or the set is not one to call");
        }
        if (club.isGone(m)) {
            return NONE;
        }
        trial.copyFrom(club);
        int number = trial.callRoll(m, set);
        for (int gone = 0; gone <= LAST_TICK_LOOKED_AT; gone++) {
            // The caller is told at once, so that the roll stands as soon as the caller is in it.
            if (what == 0 ? trial.members[m].isIn(number, m) : trial.allSitIn(set, number, m)) {
                return gone;
            }
            trial.letTicksGo(1);
        }
        return NONE;
    }

    public int compare(int a, int b, int what) throws IndexOutOfBoundsException, IllegalArgumentException {
        checkMember(a);
        checkMember(b);
        switch (what) {
            case 0: return club.sharedSessions(a, b, false);
            case 1: return club.sharedSessions(a, b, true);
            default: throw new IllegalArgumentException("what is neither 0 nor 1");
        }
    }

    public int lacks(int m) throws IndexOutOfBoundsException {
        checkMember(m);
        return Integer.bitCount(club.speechesMissedBy(m));
    }

    public int together() {
        int greatest = 0;
        for (int m = 0; m < club.count; m++) {
            int group = club.groupOf(m);
            if (Integer.bitCount(group) > Integer.bitCount(greatest)) {
                greatest = group;
            }
        }
        return greatest;
    }

    // ---- scripts, simulations

    public int runScript(int n, long script) throws IllegalArgumentException {
        if (n < 1 || n > MOST_COMMANDS) {
            throw new IllegalArgumentException("a script has 1 to 3 commands");
        }
        long bound = 1;
        for (int i = 0; i < n; i++) {
            bound *= GROUP;
        }
        if (script < 0 || script >= bound) {
            throw new IllegalArgumentException("the script is negative or has too many digits");
        }
        trial.copyFrom(club);
        long rest = script;
        for (int i = n; i < MOST_COMMANDS; i++) {
            rest *= GROUP;
        }
        for (int i = 0; i < n; i++) {
            if (!succeeds((int) (rest / TWO_GROUPS))) {
                return i;
            }
            rest = rest % TWO_GROUPS * GROUP;
        }
        return NONE;
    }

    public int simulate(long seed, int n) throws IllegalArgumentException {
        if (n < 1 || n > MOST_TURNS) {
            throw new IllegalArgumentException("the turns are not 1 to 60");
        }
        trial.copyFrom(club);
        long x = seed;
        for (int i = 0; i < n; i++) {
            x = x * FACTOR + SUMMAND;
            takeTurn((int) (x >>> 33));
        }
        int stood = trial.stood - club.stood;
        int speeches = trial.speeches - club.speeches;
        int late = Math.min(trial.late - club.late, MOST_LATE_TOLD);
        return 10000 * stood + 100 * speeches + late;
    }

    // ---- save slots

    public int save(int slot) throws IndexOutOfBoundsException {
        checkSlot(slot);
        slots[slot].copyFrom(club);
        isSaved[slot] = true;
        return club.time;
    }

    public int restore(int slot) throws IndexOutOfBoundsException, IllegalStateException {
        checkSlot(slot);
        if (!isSaved[slot]) {
            throw new IllegalStateException("nothing has been saved in the slot");
        }
        club.copyFrom(slots[slot]);
        history.count = 0;
        return club.time;
    }

    private void checkMember(int m) {
        if (!club.hasMember(m)) {
            throw new IndexOutOfBoundsException("there is no such member");
        }
    }

    private static void checkSlot(int slot) {
        if (slot < 0 || slot >= SLOTS) {
            throw new IndexOutOfBoundsException("there is no such save slot");
        }
    }

    /** Does one command of a script, five digits, on the trial, and tells whether it succeeds. */
    private boolean succeeds(int group) {
        int a = group / 1000 % 10;
        int b = group / 100 % 10;
        int rest = group % 100;
        switch (group / 10000) {
            case 1: return b == 0 && rest == 0 && trial.carryOut(SPEAK, a, 0);
            case 2: return b == 0 && trial.carryOut(CALL_ROLL, a, rest);
            case 3: return rest == 10 && trial.carryOut(CUT_WAY, a, b) || rest == 0 && trial.carryOut(MEND_WAY, a, b);
            case 4: return b == 0
                && (rest == 0 && trial.carryOut(GO_AWAY, a, 0) || rest == 1 && trial.carryOut(COME_BACK, a, 0));
            case 5: return a == 0 && b == 0 && trial.carryOut(LET_TICKS_GO, rest, 0);
            case 6: return b == 0 && trial.hasMember(a) && trial.members[a].rollNumber >= rest;
            case 7: return b == 0 && trial.hasMember(a) && trial.members[a].presence == rest;
            case 8: return b == 0 && trial.hasMember(a) && Integer.bitCount(trial.members[a].heard) >= rest;
            case 9: return rest < 10 && trial.hasMember(a) && trial.hasMember(b)
                && trial.sharedSessions(a, b, true) <= rest;
            default: return false;
        }
    }

    /** One turn of a simulation, on the trial. */
    private void takeTurn(int r) {
        int q = r / 16;
        int m = q % 6;
        switch (r % 16) {
            case 0:
                trial.carryOut(ADD_MEMBER, q % 10, 0);
                break;
            case 1:
            case 2:
            case 3:
            case 4:
            case 5:
                trial.carryOut(SPEAK, m, 0);
                break;
            case 6:
            case 7:
                trial.carryOut(CALL_ROLL, m, q / 8 % 64 & trial.everybody() | 1 << m);
                break;
            case 8:
                trial.carryOut(q / 64 % 3 == 0 ? CUT_WAY : MEND_WAY, m, q / 6 % 6);
                break;
            case 9:
                trial.carryOut(q / 8 % 3 == 0 ? GO_AWAY : COME_BACK, m, 0);
                break;
            case 10:
                trial.carryOut(SET_PATIENCE, q % 41, 0);
                break;
            default:
                trial.carryOut(LET_TICKS_GO, 1 + q % 8, 0);
        }
    }

    private static boolean isPlace(int place) {
        return place >= 0 && place <= MOST_PLACE;
    }

    private static boolean isPatience(int v) {
        return v >= 0 && v <= MOST_PATIENCE;
    }

    private static boolean areTicks(int n) {
        return n >= 1 && n <= MOST_TICKS;
    }

    private static boolean hasBit(int set, int bit) {
        return (set >> bit & 1) != 0;
    }

    /** The text buffer, and how it is read as commands: a letter and the digits behind it. */
    private static final class Text {
        final int[] signs = new int[MOST_SIGNS];
        int length;

        void addSign(int c) {
            if (length >= 0 && length < MOST_SIGNS) {
                signs[length] = c;
                length++;
            }
        }

        /** The sign at an index, or NONE where the text has none. */
        int signAt(int at) {
            return at >= 0 && at < length ? signs[at] : NONE;
        }

        int firstError() {
            if (signAt(0) != 'R') {
                return 0;
            }
            for (int at = 1; at < length; at += 1 + digitsBehind(at)) {
                int digits = digitsBehind(at);
                if (digits == 0) {
                    return at;
                }
                for (int i = 1; i <= digits; i++) {
                    if (!isAllowed(at, i)) {
                        return at + i;
                    }
                }
            }
            return NONE;
        }

        /** How many digits the command whose letter is there has; 0 if this is not the letter of a command. */
        int digitsBehind(int at) {
            switch (signAt(at)) {
                case ADD_MEMBER:
                case SPEAK:
                case GO_AWAY:
                case COME_BACK:
                    return 1;
                case CUT_WAY:
                case SET_PATIENCE:
                case LET_TICKS_GO:
                    return 2;
                case CALL_ROLL:
                    return 3;
                default:
                    return 0;
            }
        }

        /** Whether the sign i places behind the letter of a command may stand there. */
        private boolean isAllowed(int at, int i) {
            int digit = signAt(at + i) - '0';
            if (digit < 0 || digit > 9) {
                return false;
            }
            switch (signAt(at)) {
                case ADD_MEMBER:
                    return true;
                case CALL_ROLL:
                    return i == 1 ? digit < MOST_MEMBERS : beginsNumber(at + 2, i - 1, 1, 63);
                case SET_PATIENCE:
                    return beginsNumber(at + 1, i, 0, MOST_PATIENCE);
                case LET_TICKS_GO:
                    return beginsNumber(at + 1, i, 1, MOST_TICKS);
                default:
                    return digit < MOST_MEMBERS;
            }
        }

        /** Whether the first digits (1 or 2) of the number at the index begin a number of two digits in the range. */
        private boolean beginsNumber(int at, int digits, int low, int high) {
            int tens = signAt(at) - '0';
            if (digits == 1) {
                return tens >= low / 10 && tens <= high / 10;
            }
            int number = twoDigits(at);
            return number >= low && number <= high;
        }

        private int twoDigits(int at) {
            return (signAt(at) - '0') * 10 + signAt(at + 1) - '0';
        }

        /** What stands first behind a command's letter: two digits of a setting or of ticks, otherwise one. */
        int firstNumber(int at) {
            int letter = signAt(at);
            return letter == SET_PATIENCE || letter == LET_TICKS_GO ? twoDigits(at + 1) : signAt(at + 1) - '0';
        }

        /** What stands behind that: the set of a call, or the other member of a way. */
        int secondNumber(int at) {
            return signAt(at) == CALL_ROLL ? twoDigits(at + 2) : signAt(at + 2) - '0';
        }
    }

    /** The states that are remembered; the rows go round, so that the oldest one is written over. */
    private static final class History {
        final Club[] states = new Club[MOST_STATES];
        int next;
        int count;

        History() {
            for (int i = 0; i < MOST_STATES; i++) {
                states[i] = new Club();
            }
        }

        void remember(Club club) {
            states[next].copyFrom(club);
            next = next >= MOST_STATES - 1 ? 0 : next + 1;
            count = Math.min(count + 1, MOST_STATES);
        }

        Club takeLast() {
            next = next <= 0 ? MOST_STATES - 1 : next - 1;
            count--;
            return states[next];
        }
    }

    /** Rows that each tell a roll, by number and caller, and speeches of it that were heard. */
    private static final class Reports {
        final int[] number;
        final int[] caller;
        final int[] heard;
        int count;

        Reports(int most) {
            number = new int[most];
            caller = new int[most];
            heard = new int[most];
        }

        void copyFrom(Reports other) {
            int rows = Math.min(number.length, other.number.length);
            System.arraycopy(other.number, 0, number, 0, rows);
            System.arraycopy(other.caller, 0, caller, 0, rows);
            System.arraycopy(other.heard, 0, heard, 0, rows);
            count = other.count;
        }

        boolean isFull() {
            return count >= number.length;
        }

        void put(int row, int rollNumber, int rollCaller, int speeches) {
            if (row >= 0 && row < number.length) {
                number[row] = rollNumber;
                caller[row] = rollCaller;
                heard[row] = speeches;
            }
        }

        /** Adds a row behind the others; the oldest one gives way if there is no room. */
        void add(int rollNumber, int rollCaller, int speeches) {
            int last = number.length - 1;
            if (count > last) {
                for (int i = 0; i < last; i++) {
                    number[i] = number[i + 1];
                    caller[i] = caller[i + 1];
                    heard[i] = heard[i + 1];
                }
                count = last;
            }
            number[count] = rollNumber;
            caller[count] = rollCaller;
            heard[count] = speeches;
            count++;
        }

        /** Drops the rows of rolls up to that number, and returns what those of that very roll tell. */
        int takeUpTo(int rollNumber, int rollCaller) {
            int taken = 0;
            int left = 0;
            for (int i = 0; i < count; i++) {
                if (number[i] > rollNumber) {
                    number[left] = number[i];
                    caller[left] = caller[i];
                    heard[left] = heard[i];
                    left++;
                } else if (number[i] == rollNumber && caller[i] == rollCaller) {
                    taken |= heard[i];
                }
            }
            count = left;
            return taken;
        }

        /** All that is told, together, by those of the rows (a set) that tell the same roll as the one row. */
        int heardLike(int row, int rows) {
            int all = 0;
            for (int i = 0; i < number.length; i++) {
                if (hasBit(rows, i) && number[i] == number[row] && caller[i] == caller[row]) {
                    all |= heard[i];
                }
            }
            return all;
        }
    }

    private static final class Member {
        final int self;
        int place;
        int presence;
        int rollNumber;
        int rollCaller;
        int rollMembers;
        int heard;
        int promise;
        int speeches;
        int calledNumber;
        int calledSet;
        int calledSince;
        int answered;
        final Reports answers = new Reports(MOST_MEMBERS);
        final Reports kept = new Reports(MOST_KEPT);
        final Reports sessions = new Reports(MOST_SESSIONS);

        Member(int number) {
            self = number;
            rollCaller = number;
            rollMembers = 1 << number;
        }

        void copyFrom(Member other) {
            place = other.place;
            presence = other.presence;
            rollNumber = other.rollNumber;
            rollCaller = other.rollCaller;
            rollMembers = other.rollMembers;
            heard = other.heard;
            promise = other.promise;
            speeches = other.speeches;
            calledNumber = other.calledNumber;
            calledSet = other.calledSet;
            calledSince = other.calledSince;
            answered = other.answered;
            answers.copyFrom(other.answers);
            kept.copyFrom(other.kept);
            sessions.copyFrom(other.sessions);
        }

        boolean isIn(int number, int caller) {
            return rollNumber == number && rollCaller == caller;
        }

        boolean maySpeak() {
            return presence == SITS && speeches < MOST_SPEECHES;
        }

        /** Whether the member called a roll that is not answered by all, and has waited for that many ticks. */
        boolean isOutOfPatience(int time, int patience) {
            return patience != 0 && calledSet != 0 && time - calledSince >= patience;
        }

        void startCall(int set, int time) {
            promise++;
            presence = HUSHED;
            calledNumber = promise;
            calledSet = set;
            calledSince = time;
            answered = 1 << self;
            answers.put(self, rollNumber, rollCaller, heard);
        }

        /** Counts an answer if it is one to the roll that is called, and tells whether all have answered then. */
        boolean countsAnswer(int[] note) {
            if (calledSet == 0 || note[NUMBER] != calledNumber) {
                return false;
            }
            answers.put(note[FROM], note[SENDER_NUMBER], note[SENDER_CALLER], note[VALUE]);
            answered |= 1 << note[FROM];
            return isAnsweredByAll();
        }

        boolean isAnsweredByAll() {
            return answered == calledSet;
        }

        void stopCall() {
            calledSet = 0;
            answered = 0;
        }

        void hushFor(int number) {
            promise = number;
            presence = HUSHED;
            stopCall();
        }

        /** Hears a speech or keeps it, and tells whether it came in time for that. */
        boolean takesSpeech(int number, int caller, int bit) {
            if (presence == SITS && isIn(number, caller)) {
                heard |= 1 << bit;
                return true;
            }
            if (number <= rollNumber || kept.isFull()) {
                return false;
            }
            kept.add(number, caller, 1 << bit);
            return true;
        }

        /** Sits in the roll from now on, if it is not behind the times; the session before ends with what is told. */
        void enterRoll(int number, int caller, int members, int told) {
            if (number < promise || number <= rollNumber) {
                return;
            }
            sessions.add(rollNumber, rollCaller, told);
            stopCall();
            presence = SITS;
            rollNumber = number;
            rollCaller = caller;
            rollMembers = members;
            speeches = 0;
            heard = kept.takeUpTo(number, caller);
        }

        void goAway() {
            presence = GONE;
            stopCall();
            kept.count = 0;
        }

        void comeBack() {
            promise++;
            enterRoll(promise, self, 1 << self, heard);
        }
    }

    /** The ways between the members, and the notes under way on them in the order in which they come. */
    private static final class Post {
        final int[] cutFrom = new int[MOST_MEMBERS];
        final int[] rows = new int[MOST_NOTES * COLUMNS];
        int cutWays;
        int count;
        int lost;

        void copyFrom(Post other) {
            System.arraycopy(other.cutFrom, 0, cutFrom, 0, MOST_MEMBERS);
            System.arraycopy(other.rows, 0, rows, 0, other.count * COLUMNS);
            cutWays = other.cutWays;
            count = other.count;
            lost = other.lost;
        }

        boolean isCutBetween(int a, int b) {
            return (cutFrom[a] >> b & 1) != 0;
        }

        void changeWay(int a, int b, boolean cut) {
            if (isCutBetween(a, b) == cut) {
                return;
            }
            cutFrom[a] ^= 1 << b;
            cutFrom[b] ^= 1 << a;
            cutWays += cut ? 1 : -1;
        }

        /** Sends a note that also carries the roll in which the sender is now. */
        void send(int kind, Member from, Member to, int time, int number, int value) {
            if (count >= MOST_NOTES || isCutBetween(from.self, to.self)) {
                lost++;
                return;
            }
            int due = time + 1 + Math.abs(from.place - to.place);
            int place = count;
            while (place > 0 && rows[(place - 1) * COLUMNS + TIME] > due) {
                place--;
            }
            int at = place * COLUMNS;
            System.arraycopy(rows, at, rows, at + COLUMNS, (count - place) * COLUMNS);
            rows[at + KIND] = kind;
            rows[at + FROM] = from.self;
            rows[at + TO] = to.self;
            rows[at + TIME] = due;
            rows[at + NUMBER] = number;
            rows[at + VALUE] = value;
            rows[at + SENDER_NUMBER] = from.rollNumber;
            rows[at + SENDER_CALLER] = from.rollCaller;
            rows[at + SENDER_MEMBERS] = from.rollMembers;
            count++;
        }

        boolean isDue(int time) {
            return count > 0 && rows[TIME] <= time;
        }

        void takeFirst(int[] note) {
            if (count > 0) {
                count--;
                System.arraycopy(rows, 0, note, 0, COLUMNS);
                System.arraycopy(rows, COLUMNS, rows, 0, count * COLUMNS);
            }
        }
    }

    /** The state: the members, the notes between them, the time and the counts. */
    private static final class Club {
        final Member[] members = new Member[MOST_MEMBERS];
        final Post post = new Post();
        final int[] coming = new int[COLUMNS];
        int count;
        int time;
        int patience;
        int speeches;
        int late;
        int stood;

        Club() {
            for (int m = 0; m < MOST_MEMBERS; m++) {
                members[m] = new Member(m);
            }
        }

        void copyFrom(Club other) {
            for (int m = 0; m < MOST_MEMBERS; m++) {
                members[m].copyFrom(other.members[m]);
            }
            post.copyFrom(other.post);
            count = other.count;
            time = other.time;
            patience = other.patience;
            speeches = other.speeches;
            late = other.late;
            stood = other.stood;
        }

        boolean hasMember(int m) {
            return m >= 0 && m < count;
        }

        boolean isGone(int m) {
            return members[m].presence == GONE;
        }

        int everybody() {
            return (1 << count) - 1;
        }

        boolean isRollWith(int m, int set) {
            return (set & ~everybody()) == 0 && hasBit(set, m);
        }

        int whoAre(int presence) {
            int set = 0;
            for (int m = 0; m < count; m++) {
                if (members[m].presence == presence) {
                    set |= 1 << m;
                }
            }
            return set;
        }

        boolean allSitIn(int set, int number, int caller) {
            for (int m = 0; m < count; m++) {
                if (hasBit(set, m) && !(members[m].presence == SITS && members[m].isIn(number, caller))) {
                    return false;
                }
            }
            return true;
        }

        /** The members, none of them gone, who are in the same roll as this one; none if it is gone itself. */
        int groupOf(int m) {
            int group = 0;
            for (int other = 0; other < count; other++) {
                Member it = members[other];
                if (it.presence != GONE && it.isIn(members[m].rollNumber, members[m].rollCaller)) {
                    group |= 1 << other;
                }
            }
            return hasBit(group, m) ? group : 0;
        }

        int speechesMissedBy(int m) {
            int all = 0;
            for (int other = 0; other < count; other++) {
                Member it = members[other];
                if (hasBit(members[m].rollMembers, other) && it.isIn(members[m].rollNumber, members[m].rollCaller)) {
                    all |= it.heard;
                }
            }
            return all & ~members[m].heard;
        }

        /** The rolls of which both remember a session; of these, if unlike is asked for, those heard unlike. */
        int sharedSessions(int a, int b, boolean unlike) {
            Reports ofA = members[a].sessions;
            Reports ofB = members[b].sessions;
            int shared = 0;
            for (int i = 0; i < ofA.count; i++) {
                for (int j = 0; j < ofB.count; j++) {
                    boolean same = ofA.number[i] == ofB.number[j] && ofA.caller[i] == ofB.caller[j];
                    if (same && !(unlike && ofA.heard[i] == ofB.heard[j])) {
                        shared++;
                    }
                }
            }
            return shared;
        }

        /** Does a command, and tells whether it could be done; nothing changes if its method would throw. */
        boolean carryOut(int command, int a, int b) {
            switch (command) {
                case ADD_MEMBER:
                    if (!isPlace(a) || count >= MOST_MEMBERS) {
                        return false;
                    }
                    addMember(a);
                    return true;
                case SET_PATIENCE:
                    if (!isPatience(a)) {
                        return false;
                    }
                    patience = a;
                    return true;
                case LET_TICKS_GO:
                    if (!areTicks(a)) {
                        return false;
                    }
                    letTicksGo(a);
                    return true;
                case CUT_WAY:
                case MEND_WAY:
                    if (!hasMember(a) || !hasMember(b) || a == b) {
                        return false;
                    }
                    post.changeWay(a, b, command == CUT_WAY);
                    return true;
                default:
                    return hasMember(a) && carryOutBy(a, command, b);
            }
        }

        /** The commands that one member does, as carryOut(). */
        private boolean carryOutBy(int m, int command, int set) {
            switch (command) {
                case SPEAK:
                    if (!members[m].maySpeak()) {
                        return false;
                    }
                    speak(m);
                    return true;
                case CALL_ROLL:
                    if (!isRollWith(m, set) || isGone(m)) {
                        return false;
                    }
                    callRoll(m, set);
                    return true;
                case GO_AWAY:
                    if (isGone(m)) {
                        return false;
                    }
                    members[m].goAway();
                    return true;
                case COME_BACK:
                    if (!isGone(m)) {
                        return false;
                    }
                    members[m].comeBack();
                    return true;
                default:
                    return false;
            }
        }

        int addMember(int place) {
            members[count].place = place;
            count++;
            return count - 1;
        }

        int speak(int m) {
            Member speaker = members[m];
            int bit = MOST_SPEECHES * m + speaker.speeches;
            speaker.speeches++;
            speaker.heard |= 1 << bit;
            speeches++;
            for (int other = 0; other < count; other++) {
                if (other != m && hasBit(speaker.rollMembers, other)) {
                    post.send(SPEECH_NOTE, speaker, members[other], time, speaker.rollNumber, bit);
                }
            }
            return bit;
        }

        int callRoll(int m, int set) {
            Member caller = members[m];
            caller.startCall(set, time);
            int number = caller.calledNumber;
            for (int other = 0; other < count; other++) {
                if (other != m && hasBit(set, other)) {
                    post.send(CALL_NOTE, caller, members[other], time, number, set);
                }
            }
            if (caller.isAnsweredByAll()) {
                rollStands(caller);
            }
            return number;
        }

        /** The time goes on; of each tick first the notes come, and then those out of patience call anew. */
        void letTicksGo(int ticks) {
            for (int i = 0; i < ticks; i++) {
                time++;
                for (int left = post.count; left > 0 && post.isDue(time); left--) {
                    noteComes();
                }
                for (int m = 0; m < count; m++) {
                    if (members[m].isOutOfPatience(time, patience)) {
                        callRoll(m, members[m].answered);
                    }
                }
            }
        }

        private void noteComes() {
            post.takeFirst(coming);
            int from = coming[FROM];
            int to = coming[TO];
            if (!hasMember(from) || !hasMember(to)) {
                return;
            }
            Member reader = members[to];
            if (reader.presence == GONE) {
                post.lost++;
                return;
            }
            switch (coming[KIND]) {
                case SPEECH_NOTE:
                    if (!reader.takesSpeech(coming[SENDER_NUMBER], coming[SENDER_CALLER], coming[VALUE])) {
                        late++;
                    }
                    break;
                case CALL_NOTE:
                    answerCall(reader, members[from], coming[NUMBER]);
                    break;
                case ANSWER_NOTE:
                    if (reader.countsAnswer(coming)) {
                        rollStands(reader);
                    }
                    break;
                default:
                    reader.enterRoll(coming[NUMBER], from, coming[SENDER_MEMBERS], coming[VALUE]);
            }
        }

        private void answerCall(Member reader, Member caller, int number) {
            if (number > reader.promise) {
                reader.hushFor(number);
                post.send(ANSWER_NOTE, reader, caller, time, number, reader.heard);
            }
        }

        /** Tells all members of the roll that was called, and that all have answered, that it stands. */
        private void rollStands(Member caller) {
            int number = caller.calledNumber;
            int set = caller.calledSet;
            stood++;
            // The caller goes first, so that the notes carry the new roll as the one in which their sender is.
            caller.enterRoll(number, caller.self, set, caller.answers.heardLike(caller.self, set));
            for (int m = 0; m < count; m++) {
                if (m != caller.self && hasBit(set, m)) {
                    int told = caller.answers.heardLike(m, set);
                    post.send(STANDS_NOTE, caller, members[m], time, number, told);
                }
            }
        }
    }
}
