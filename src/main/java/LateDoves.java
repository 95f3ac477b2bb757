/** A dovecote with numbered holes and a rule for late doves; ../shared/DOC.md tells what it promises. */
public final class LateDoves {
    public static final int NONE = -1;
    public static final int ROOF = 24;

    private static final int HOLES = 24;
    private static final int DOVES = 16;
    private static final int LAST_MINUTE = 1439;
    private static final int STRONGEST = 9;
    private static final int MOST_SHIFTS = 24;
    private static final int BUFFER_SIZE = 60;
    private static final int MOST_SAVED = 6;
    private static final int COUNTS = 18;
    private static final int SAVED_STATES = 17;

    // The rows of the doves' table stand in the order in which dove() tells them.
    private static final int OWN = 0;
    private static final int STRENGTH = 1;
    private static final int PLACE = 2;
    private static final int MATE = 3;
    private static final int LATE = 4;
    private static final int SHIFTED = 5;
    private static final int ABSENT = 6;
    private static final int AT_HOME = 7;
    private static final int DOVE_ROWS = 8;

    // The rows of the holes' table stand in the order in which hole() tells them.
    private static final int SITTER = 0;
    private static final int OWNER = 1;
    private static final int IS_OPEN = 2;
    private static final int HOLE_ROWS = 3;

    private static final int DUSK = 0;
    private static final int SHIFT_LIMIT = 1;
    private static final int SETTINGS = 2;

    // The places of the numbers of the latest dawn, in the order in which count() tells them.
    private static final int DAWN_OWN = 0;
    private static final int DAWN_OTHER = 1;
    private static final int DAWN_ROOF = 2;
    private static final int DAWN_OUT = 3;
    private static final int DAWN_NUMBERS = 4;

    private static final int STOP_PART = 0;
    private static final int STOP_REASON = 1;
    private static final int STOP_NUMBERS = 2;

    private static final int NO_REASON = 0;
    private static final int NOT_OUT = 1;
    private static final int TIME_GONE = 2;
    private static final int HOLE_TAKEN = 3;
    private static final int SHUT_ALREADY = 4;
    private static final int COTE_FULL = 5;
    private static final int HOLE_OWNED = 6;
    private static final int HOLE_SHUT = 7;
    private static final int SAME_DOVE = 8;
    private static final int HAS_MATE = 9;
    private static final int NO_SUCH_DOVE = 10;

    private final Cote now;
    private final Cote trial;
    private final Cote snapshot;
    private boolean hasSnapshot;
    private final Cote[] saved;
    private int savedCount;
    private final int[] buffer;
    private int length;
    private final PartReader reader;

    public LateDoves() {
        now = new Cote();
        trial = new Cote();
        snapshot = new Cote();
        hasSnapshot = false;
        saved = new Cote[MOST_SAVED];
        for (int i = 0; i < MOST_SAVED; i++) {
            saved[i] = new Cote();
        }
        savedCount = 0;
        buffer = new int[BUFFER_SIZE];
        length = 0;
        reader = new PartReader();
    }

    // ---- doves, holes

    public int buy(int hole, int strength)
            throws IndexOutOfBoundsException, IllegalArgumentException, IllegalStateException {
        needHole(hole);
        if (strength < 1 || strength > STRONGEST) {
            throw new IllegalArgumentException("strength is not 1 to 9");
        }
        if (now.reasonNotToBuy(hole) != NO_REASON) {
            throw new IllegalStateException("the dove cannot be bought");
        }
        save();
        return now.addDove(hole, strength);
    }

    public int sell(int dove) throws IndexOutOfBoundsException {
        needDove(dove);
        save();
        return now.removeDove(dove);
    }

    public int mate(int dove, int other) throws IndexOutOfBoundsException, IllegalStateException {
        needDove(dove);
        needDove(other);
        if (now.reasonNotToPair(dove, other) != NO_REASON) {
            throw new IllegalStateException("the two cannot be mates");
        }
        save();
        now.pair(dove, other);
        return now.pairs();
    }

    public int shut(int hole) throws IndexOutOfBoundsException, IllegalStateException {
        needHole(hole);
        if (now.reasonNotToShut(hole) != NO_REASON) {
            throw new IllegalStateException("the hole cannot be shut");
        }
        save();
        now.setOpen(hole, 0);
        return now.openHoles();
    }

    public int open(int hole) throws IndexOutOfBoundsException {
        needHole(hole);
        save();
        now.setOpen(hole, 1);
        return now.openHoles();
    }

    public int set(int setting, int value) throws IndexOutOfBoundsException, IllegalArgumentException {
        if (setting < 0 || setting >= SETTINGS) {
            throw new IndexOutOfBoundsException("no such setting");
        }
        int highest = setting == DUSK ? LAST_MINUTE : MOST_SHIFTS;
        if (value < 0 || value > highest) {
            throw new IllegalArgumentException("value is out of range");
        }
        save();
        int previous = now.settings[setting];
        now.settings[setting] = value;
        return previous;
    }

    // ---- evenings, dawns

    public int home(int dove, int time)
            throws IndexOutOfBoundsException, IllegalArgumentException, IllegalStateException {
        needDove(dove);
        needTime(time);
        if (now.reasonNotHome(dove, time) != NO_REASON) {
            throw new IllegalStateException("the dove cannot come home");
        }
        save();
        return now.comeHome(dove, time);
    }

    public int dawn() {
        save();
        return now.endNight();
    }

    // ---- texts

    public int append(int code) throws IllegalArgumentException, IllegalStateException {
        if (code < 33 || code > 126) {
            throw new IllegalArgumentException("code is not 33 to 126");
        }
        if (length >= BUFFER_SIZE) {
            throw new IllegalStateException("the buffer is full");
        }
        buffer[length] = code;
        length++;
        return length;
    }

    public int clearBuffer() {
        int had = length;
        length = 0;
        return had;
    }

    public int firstError() {
        reader.begin();
        for (int i = 0; i < length; i++) {
            if (!reader.take(buffer[i])) {
                return i;
            }
        }
        return length;
    }

    public int pass() throws IllegalArgumentException {
        if (firstError() < length || !reader.isComplete()) {
            throw new IllegalArgumentException("the buffer is not a complete evening");
        }
        save();
        now.noteStop(NONE, NONE);
        reader.begin();
        int happened = 0;
        int reason = NO_REASON;
        for (int i = 0; i <= length && reason == NO_REASON; i++) {
            if (i == length || buffer[i] == ';') {
                reason = playPart();
                happened += reason == NO_REASON ? 1 : 0;
            }
            if (i < length) {
                reader.take(buffer[i]);
            }
        }
        if (reason != NO_REASON) {
            now.noteStop(happened, reason);
        }
        length = 0;
        return happened;
    }

    public int stopped(int what) throws IllegalArgumentException {
        if (what < 0 || what >= STOP_NUMBERS) {
            throw new IllegalArgumentException("what is neither 0 nor 1");
        }
        return now.stop[what];
    }

    // ---- undo, the snapshot

    public int undo() throws IllegalStateException {
        if (savedCount <= 0) {
            throw new IllegalStateException("there is no saved state");
        }
        savedCount--;
        now.copyFrom(saved[savedCount]);
        return savedCount;
    }

    public int keep() {
        snapshot.copyFrom(now);
        hasSnapshot = true;
        return now.day;
    }

    public int restore() throws IllegalStateException {
        if (!hasSnapshot) {
            throw new IllegalStateException("there is no snapshot");
        }
        save();
        now.copyFrom(snapshot);
        return now.day;
    }

    // ---- looks; nothing is changed

    public int dove(int dove, int what) throws IndexOutOfBoundsException, IllegalArgumentException {
        needDove(dove);
        if (what < 0 || what >= DOVE_ROWS) {
            throw new IllegalArgumentException("what is not 0 to 7");
        }
        return now.doves[what][dove];
    }

    public int hole(int hole, int what) throws IndexOutOfBoundsException, IllegalArgumentException {
        needHole(hole);
        if (what < 0 || what >= HOLE_ROWS) {
            throw new IllegalArgumentException("what is not 0 to 2");
        }
        return now.holes[what][hole];
    }

    public int count(int what) throws IllegalArgumentException {
        if (what < 0 || what >= COUNTS) {
            throw new IllegalArgumentException("what is not 0 to 17");
        }
        return what == SAVED_STATES ? savedCount : now.numberOf(what);
    }

    public int step(int step, int what) throws IllegalArgumentException {
        if (step < 0 || what < 0 || what > 1) {
            throw new IllegalArgumentException("step is below 0, or what is neither 0 nor 1");
        }
        if (step >= now.way.size) {
            return NONE;
        }
        return what == 0 ? now.way.who[step] : now.way.where[step];
    }

    // ---- what would be; nothing is changed

    public int whyNot(int dove, int time) throws IndexOutOfBoundsException, IllegalArgumentException {
        needDove(dove);
        needTime(time);
        return now.reasonNotHome(dove, time);
    }

    public int ifHome(int dove, int time, int what) throws IndexOutOfBoundsException, IllegalArgumentException {
        needDove(dove);
        needTime(time);
        if (what < 0 || what > 2) {
            throw new IllegalArgumentException("what is not 0 to 2");
        }
        return tryHome(dove, time) ? trialNumber(dove, what) : NONE;
    }

    public int freeHole() {
        for (int hole = 0; hole < HOLES; hole++) {
            if (now.isOpen(hole) && now.holes[OWNER][hole] == NONE) {
                return hole;
            }
        }
        return NONE;
    }

    public int lateIsAsGood() {
        return sittingIfAllCame(LAST_MINUTE) < sittingIfAllCame(now.time) ? 0 : 1;
    }

    public double homeShare() {
        int all = now.doveCount();
        if (all == 0) {
            return 1.0;
        }
        return (double) now.inOwnHoles() / (double) all;
    }

    public long digest() {
        long hash = 3889L;
        for (int what = 0; what < COUNTS; what++) {
            hash = mix(hash, count(what));
        }
        for (int dove = 0; dove < DOVES; dove++) {
            if (now.exists(dove)) {
                hash = mixDove(hash, dove);
            }
        }
        for (int hole = 0; hole < HOLES; hole++) {
            for (int what = 0; what < HOLE_ROWS; what++) {
                hash = mix(hash, now.holes[what][hole]);
            }
        }
        hash = mixWay(hash);
        hash = mix(hash, now.stop[STOP_PART]);
        hash = mix(hash, now.stop[STOP_REASON]);
        hash = mix(hash, freeHole());
        hash = mix(hash, lateIsAsGood());
        hash = mix(hash, bitsOfShare(homeShare()));
        hash = mix(hash, length);
        for (int i = 0; i < length; i++) {
            hash = mix(hash, buffer[i]);
        }
        return hash;
    }

    // ---- arguments

    private static boolean isHole(int hole) {
        return hole >= 0 && hole < HOLES;
    }

    private static void needHole(int hole) {
        if (!isHole(hole)) {
            throw new IndexOutOfBoundsException("no such hole");
        }
    }

    private static void needTime(int time) {
        if (time < 0 || time > LAST_MINUTE) {
            throw new IllegalArgumentException("time is not 0 to 1439");
        }
    }

    private void needDove(int dove) {
        if (!now.exists(dove)) {
            throw new IndexOutOfBoundsException("no such dove");
        }
    }

    // ---- saved states

    /** Saves the state of now; the oldest one's room is used again when all are full. */
    private void save() {
        if (savedCount >= MOST_SAVED) {
            Cote oldest = saved[0];
            for (int i = 1; i < MOST_SAVED; i++) {
                saved[i - 1] = saved[i];
            }
            saved[MOST_SAVED - 1] = oldest;
            savedCount = MOST_SAVED - 1;
        }
        saved[savedCount].copyFrom(now);
        savedCount++;
    }

    // ---- texts, part by part

    /** Lets the part in the reader happen, if nothing stands against it; returns the reason against it. */
    private int playPart() {
        int first = reader.first;
        int second = reader.second;
        switch (reader.kind) {
            case 'h':
                return playHome(first, second);
            case 'b':
                return playBuy(first, second);
            case 'm':
                return playMate(first, second);
            case 'x':
                return playShut(first);
            case 'o':
                now.setOpen(first, 1);
                return NO_REASON;
            default:
                now.endNight();
                return NO_REASON;
        }
    }

    private int playHome(int dove, int time) {
        if (!now.exists(dove)) {
            return NO_SUCH_DOVE;
        }
        int reason = now.reasonNotHome(dove, time);
        if (reason == NO_REASON) {
            now.comeHome(dove, time);
        }
        return reason;
    }

    private int playBuy(int hole, int strength) {
        int reason = now.reasonNotToBuy(hole);
        if (reason == NO_REASON) {
            now.addDove(hole, strength);
        }
        return reason;
    }

    private int playMate(int dove, int other) {
        if (!now.exists(dove) || !now.exists(other)) {
            return NO_SUCH_DOVE;
        }
        int reason = now.reasonNotToPair(dove, other);
        if (reason == NO_REASON) {
            now.pair(dove, other);
        }
        return reason;
    }

    private int playShut(int hole) {
        int reason = now.reasonNotToShut(hole);
        if (reason == NO_REASON) {
            now.setOpen(hole, 0);
        }
        return reason;
    }

    // ---- trials

    /** Lets a dove come home in the trial; false if it cannot, and then the trial tells nothing. */
    private boolean tryHome(int dove, int time) {
        if (now.reasonNotHome(dove, time) != NO_REASON) {
            return false;
        }
        trial.copyFrom(now);
        trial.comeHome(dove, time);
        return true;
    }

    /** A number of ifHome(), behind a trial that went well. */
    private int trialNumber(int dove, int what) {
        if (what == 0) {
            return trial.doves[PLACE][dove];
        }
        if (what == 1) {
            return trial.shifts - now.shifts;
        }
        return trial.placedAt(ROOF) - now.placedAt(ROOF);
    }

    /** How many doves would sit in holes, if all that are out came by their numbers at this time. */
    private int sittingIfAllCame(int time) {
        trial.copyFrom(now);
        for (int dove = 0; dove < DOVES; dove++) {
            if (trial.exists(dove) && trial.doves[PLACE][dove] == NONE) {
                trial.comeHome(dove, time);
            }
        }
        return trial.sittingByDoves();
    }

    // ---- the hash

    private static long mix(long hash, long value) {
        return 31L * hash + value;
    }

    private long mixDove(long start, int dove) {
        long hash = mix(start, dove);
        for (int what = 0; what < DOVE_ROWS; what++) {
            hash = mix(hash, now.doves[what][dove]);
        }
        hash = mix(hash, now.reasonNotHome(dove, LAST_MINUTE));
        boolean comes = tryHome(dove, LAST_MINUTE);
        for (int what = 0; what < 3; what++) {
            hash = mix(hash, comes ? trialNumber(dove, what) : NONE);
        }
        return hash;
    }

    private long mixWay(long start) {
        long hash = start;
        for (int i = 0; i < now.way.size; i++) {
            hash = mix(hash, now.way.who[i]);
            hash = mix(hash, now.way.where[i]);
        }
        return hash;
    }

    /** The bits of a double from 0 to 1: the library that LANGUAGE.md leaves has no Double. */
    private static long bitsOfShare(double share) {
        if (share <= 0.0) {
            return 0L;
        }
        double scaled = share;
        long exponent = 1023L;
        for (int i = 0; i < 64 && scaled < 1.0; i++) {
            scaled = scaled * 2.0;
            exponent--;
        }
        long fraction = (long) ((scaled - 1.0) * 4503599627370496.0);
        return (exponent << 52) + fraction;
    }

    /** One state of the dovecote: all that is saved, kept and restored. */
    private static final class Cote {
        private final int[][] doves;
        private final int[][] holes;
        private final int[] settings;
        private final int[] atDawn;
        private final int[] stop;
        private final Way way;
        private int day;
        private int time;
        private int shifts;
        private int quarrels;

        Cote() {
            doves = new int[DOVE_ROWS][DOVES];
            for (int dove = 0; dove < DOVES; dove++) {
                doves[OWN][dove] = NONE;
                doves[PLACE][dove] = NONE;
                doves[MATE][dove] = NONE;
            }
            holes = new int[HOLE_ROWS][HOLES];
            for (int hole = 0; hole < HOLES; hole++) {
                holes[SITTER][hole] = NONE;
                holes[OWNER][hole] = NONE;
                holes[IS_OPEN][hole] = 1;
            }
            settings = new int[SETTINGS];
            settings[DUSK] = 1080;
            settings[SHIFT_LIMIT] = 6;
            atDawn = new int[DAWN_NUMBERS];
            stop = new int[STOP_NUMBERS];
            stop[STOP_PART] = NONE;
            stop[STOP_REASON] = NONE;
            way = new Way();
        }

        void copyFrom(Cote other) {
            for (int row = 0; row < DOVE_ROWS; row++) {
                System.arraycopy(other.doves[row], 0, doves[row], 0, DOVES);
            }
            for (int row = 0; row < HOLE_ROWS; row++) {
                System.arraycopy(other.holes[row], 0, holes[row], 0, HOLES);
            }
            System.arraycopy(other.settings, 0, settings, 0, SETTINGS);
            System.arraycopy(other.atDawn, 0, atDawn, 0, DAWN_NUMBERS);
            System.arraycopy(other.stop, 0, stop, 0, STOP_NUMBERS);
            way.copyFrom(other.way);
            day = other.day;
            time = other.time;
            shifts = other.shifts;
            quarrels = other.quarrels;
        }

        // ---- what is

        boolean exists(int dove) {
            return dove >= 0 && dove < DOVES && doves[OWN][dove] != NONE;
        }

        boolean isOpen(int hole) {
            return isHole(hole) && holes[IS_OPEN][hole] == 1;
        }

        boolean isFree(int hole) {
            return isHole(hole) && holes[IS_OPEN][hole] == 1 && holes[SITTER][hole] == NONE;
        }

        int numberOf(int what) {
            switch (what) {
                case 0: return day;
                case 1: return time;
                case 2: return doveCount();
                case 3: return sittingByDoves();
                case 4: return sittingByHoles();
                case 5: return placedAt(ROOF);
                case 6: return placedAt(NONE);
                case 7: return openHoles();
                case 8: return pairs();
                case 9: return shifts;
                case 10: return quarrels;
                case 11: return atDawn[DAWN_OWN];
                case 12: return atDawn[DAWN_OTHER];
                case 13: return atDawn[DAWN_ROOF];
                case 14: return atDawn[DAWN_OUT];
                case 15: return settings[DUSK];
                default: return settings[SHIFT_LIMIT];
            }
        }

        int doveCount() {
            int all = 0;
            for (int dove = 0; dove < DOVES; dove++) {
                if (exists(dove)) {
                    all++;
                }
            }
            return all;
        }

        int sittingByDoves() {
            return doveCount() - placedAt(ROOF) - placedAt(NONE);
        }

        int sittingByHoles() {
            int taken = 0;
            for (int hole = 0; hole < HOLES; hole++) {
                if (holes[SITTER][hole] != NONE) {
                    taken++;
                }
            }
            return taken;
        }

        int placedAt(int place) {
            int there = 0;
            for (int dove = 0; dove < DOVES; dove++) {
                if (exists(dove) && doves[PLACE][dove] == place) {
                    there++;
                }
            }
            return there;
        }

        int inOwnHoles() {
            int there = 0;
            for (int dove = 0; dove < DOVES; dove++) {
                if (exists(dove) && doves[PLACE][dove] == doves[OWN][dove]) {
                    there++;
                }
            }
            return there;
        }

        int openHoles() {
            int open = 0;
            for (int hole = 0; hole < HOLES; hole++) {
                if (isOpen(hole)) {
                    open++;
                }
            }
            return open;
        }

        int pairs() {
            int mated = 0;
            for (int dove = 0; dove < DOVES; dove++) {
                if (exists(dove) && doves[MATE][dove] != NONE) {
                    mated++;
                }
            }
            return mated / 2;
        }

        // ---- reasons

        int reasonNotHome(int dove, int time) {
            if (doves[PLACE][dove] != NONE) {
                return NOT_OUT;
            }
            return time < this.time ? TIME_GONE : NO_REASON;
        }

        int reasonNotToShut(int hole) {
            if (isHole(hole) && holes[SITTER][hole] != NONE) {
                return HOLE_TAKEN;
            }
            return isOpen(hole) ? NO_REASON : SHUT_ALREADY;
        }

        int reasonNotToBuy(int hole) {
            if (doveCount() >= DOVES) {
                return COTE_FULL;
            }
            if (isHole(hole) && holes[OWNER][hole] != NONE) {
                return HOLE_OWNED;
            }
            return isOpen(hole) ? NO_REASON : HOLE_SHUT;
        }

        int reasonNotToPair(int dove, int other) {
            if (dove == other) {
                return SAME_DOVE;
            }
            boolean oneHas = doves[MATE][dove] != NONE || doves[MATE][other] != NONE;
            return oneHas ? HAS_MATE : NO_REASON;
        }

        // ---- doves, holes

        int addDove(int hole, int strength) {
            for (int dove = 0; dove < DOVES; dove++) {
                if (!exists(dove)) {
                    doves[OWN][dove] = hole;
                    doves[STRENGTH][dove] = strength;
                    holes[OWNER][hole] = dove;
                    return dove;
                }
            }
            return NONE;
        }

        /** Takes a dove away and leaves its number as one that no dove ever had; returns its place. */
        int removeDove(int dove) {
            int own = doves[OWN][dove];
            int place = doves[PLACE][dove];
            int mate = doves[MATE][dove];
            if (isHole(own)) {
                holes[OWNER][own] = NONE;
            }
            if (isHole(place)) {
                holes[SITTER][place] = NONE;
            }
            if (exists(mate)) {
                doves[MATE][mate] = NONE;
            }
            for (int row = 0; row < DOVE_ROWS; row++) {
                doves[row][dove] = 0;
            }
            doves[OWN][dove] = NONE;
            doves[PLACE][dove] = NONE;
            doves[MATE][dove] = NONE;
            return place;
        }

        void pair(int dove, int other) {
            doves[MATE][dove] = other;
            doves[MATE][other] = dove;
        }

        void setOpen(int hole, int open) {
            if (isHole(hole)) {
                holes[IS_OPEN][hole] = open;
            }
        }

        void noteStop(int part, int reason) {
            stop[STOP_PART] = part;
            stop[STOP_REASON] = reason;
        }

        // ---- evenings, dawns

        /** Lets a dove that is out come home; returns how many shifts there are by it. */
        int comeHome(int dove, int time) {
            this.time = time;
            way.size = 0;
            int before = shifts;
            int mostShifts = shifts + settings[SHIFT_LIMIT];
            boolean late = time > settings[DUSK];
            if (late) {
                doves[LATE][dove]++;
            }
            int looking = dove;
            if (!late && isOpen(doves[OWN][dove])) {
                looking = enterOwnHole(dove, shifts < mostShifts);
            }
            for (int turn = 0; turn <= MOST_SHIFTS && exists(looking); turn++) {
                looking = settle(looking, shifts < mostShifts);
            }
            return shifts - before;
        }

        /** A dove in time goes into its own hole; returns the one that looks for a hole then, or NONE. */
        private int enterOwnHole(int dove, boolean mayShift) {
            int own = doves[OWN][dove];
            int there = holes[SITTER][own];
            if (exists(there)) {
                if (mayShift) {
                    return shiftFrom(own, dove);
                }
                doves[PLACE][there] = ROOF;
            }
            sit(dove, own);
            return NONE;
        }

        /** A late or shifted dove looks for a place; returns the one that it shifts, or NONE. */
        private int settle(int dove, boolean mayShift) {
            int free = firstFreeFor(dove);
            if (free != NONE) {
                sit(dove, free);
                return NONE;
            }
            int beside = (doves[OWN][dove] + 1) % HOLES;
            if (mayShift && isOpen(beside)) {
                int there = holes[SITTER][beside];
                if (exists(there) && doves[STRENGTH][there] < doves[STRENGTH][dove]) {
                    return shiftFrom(beside, dove);
                }
            }
            sit(dove, ROOF);
            return NONE;
        }

        private int firstFreeFor(int dove) {
            int mate = doves[MATE][dove];
            int matePlace = exists(mate) ? doves[PLACE][mate] : NONE;
            if (isHole(matePlace)) {
                if (isFree(matePlace - 1)) {
                    return matePlace - 1;
                }
                if (isFree(matePlace + 1)) {
                    return matePlace + 1;
                }
            }
            for (int i = 0; i < HOLES; i++) {
                int hole = (doves[OWN][dove] + i) % HOLES;
                if (isFree(hole)) {
                    return hole;
                }
            }
            return NONE;
        }

        /** The dove takes the hole from the one that sits there; returns that one. */
        private int shiftFrom(int hole, int dove) {
            int there = holes[SITTER][hole];
            shifts++;
            if (doves[MATE][dove] != there) {
                quarrels++;
            }
            doves[SHIFTED][there]++;
            doves[PLACE][there] = NONE;
            sit(dove, hole);
            return there;
        }

        private void sit(int dove, int place) {
            doves[PLACE][dove] = place;
            if (isHole(place)) {
                holes[SITTER][place] = dove;
            }
            way.note(dove, place);
        }

        /** Counts who sat where, lets all go out, and begins the next day; returns how many sat in holes. */
        int endNight() {
            for (int i = 0; i < DAWN_NUMBERS; i++) {
                atDawn[i] = 0;
            }
            for (int dove = 0; dove < DOVES; dove++) {
                if (exists(dove)) {
                    countAtDawn(dove);
                    doves[PLACE][dove] = NONE;
                }
            }
            for (int hole = 0; hole < HOLES; hole++) {
                holes[SITTER][hole] = NONE;
            }
            day++;
            time = 0;
            return atDawn[DAWN_OWN] + atDawn[DAWN_OTHER];
        }

        private void countAtDawn(int dove) {
            int place = doves[PLACE][dove];
            if (place == NONE) {
                atDawn[DAWN_OUT]++;
                doves[ABSENT][dove]++;
            } else if (place == ROOF) {
                atDawn[DAWN_ROOF]++;
            } else if (place == doves[OWN][dove]) {
                atDawn[DAWN_OWN]++;
                doves[AT_HOME][dove]++;
            } else {
                atDawn[DAWN_OTHER]++;
            }
        }
    }

    /** The steps of the latest coming home. */
    private static final class Way {
        private final int[] who;
        private final int[] where;
        private int size;

        Way() {
            who = new int[MOST_SHIFTS + 1];
            where = new int[MOST_SHIFTS + 1];
            size = 0;
        }

        void copyFrom(Way other) {
            System.arraycopy(other.who, 0, who, 0, MOST_SHIFTS + 1);
            System.arraycopy(other.where, 0, where, 0, MOST_SHIFTS + 1);
            size = other.size;
        }

        void note(int dove, int place) {
            if (size <= MOST_SHIFTS) {
                who[size] = dove;
                where[size] = place;
                size++;
            }
        }
    }

    /** Reads an evening character by character and holds the part that it is in. */
    private static final class PartReader {
        private static final int LETTER = 0;
        private static final int FIRST = 1;
        private static final int SECOND = 2;
        private static final int DAWN = 3;

        private int stage;
        private int kind;
        private int first;
        private int second;

        PartReader() {
            stage = LETTER;
            kind = 0;
            first = NONE;
            second = NONE;
        }

        void begin() {
            stage = LETTER;
            kind = 0;
            first = NONE;
            second = NONE;
        }

        /** Reads one more character; false, and nothing is read, if it is a syntax error. */
        boolean take(int code) {
            if (stage == LETTER) {
                return takeLetter(code);
            }
            if (code == ';') {
                return takeEnd();
            }
            if (code >= '0' && code <= '9') {
                return takeDigit(code - '0');
            }
            return takeSign(code);
        }

        /** Tells whether the part could end here. */
        boolean isComplete() {
            if (stage == FIRST) {
                return first != NONE && signBehindFirst() == NONE;
            }
            return stage == DAWN || (stage == SECOND && second != NONE);
        }

        private boolean takeLetter(int code) {
            switch (code) {
                case 'h':
                case 'b':
                case 'm':
                case 'x':
                case 'o':
                    stage = FIRST;
                    break;
                case '^':
                    stage = DAWN;
                    break;
                default:
                    return false;
            }
            kind = code;
            return true;
        }

        private boolean takeEnd() {
            if (!isComplete()) {
                return false;
            }
            begin();
            return true;
        }

        private boolean takeSign(int code) {
            if (stage != FIRST || first == NONE || code != signBehindFirst()) {
                return false;
            }
            stage = SECOND;
            return true;
        }

        private boolean takeDigit(int digit) {
            if (stage == FIRST) {
                int longer = grown(first, digit);
                if (longer == NONE || longer > highestFirst()) {
                    return false;
                }
                first = longer;
                return true;
            }
            if (stage == SECOND) {
                int longer = grown(second, digit);
                if (longer < lowestSecond() || longer > highestSecond()) {
                    return false;
                }
                second = longer;
                return true;
            }
            return false;
        }

        /** A number with one digit more; NONE behind a leading zero. */
        private static int grown(int number, int digit) {
            if (number == NONE) {
                return digit;
            }
            return number == 0 ? NONE : number * 10 + digit;
        }

        private int signBehindFirst() {
            switch (kind) {
                case 'h': return '@';
                case 'b': return '!';
                case 'm': return '+';
                default: return NONE;
            }
        }

        private int highestFirst() {
            return kind == 'h' || kind == 'm' ? DOVES - 1 : HOLES - 1;
        }

        private int lowestSecond() {
            return kind == 'b' ? 1 : 0;
        }

        private int highestSecond() {
            switch (kind) {
                case 'h': return LAST_MINUTE;
                case 'b': return STRONGEST;
                default: return DOVES - 1;
            }
        }
    }
}
