import java.util.Arrays;

/**
 * Graves that are kept while somebody dreams of them in each year, and the sleepers who do.
 * Every call answers a number; what cannot be done is answered by a refusal or a finding.
 */
public final class DreamGraves {
    public static final int NONE = -1000000, BAD = -1000001, STATE = -1000002, FULL = -1000003;

    private static final int FINDINGS = -1000010, FAULTS = -1000100;
    private static final int NULL = 1, PLACE = 2, KIND = 3, SIZE = 4, STORE = 5;
    private static final int ROWS = 8, MOST_ITEMS = 40, MOST_BYTES = 120;
    private static final int MISSING = -1, BYTES = 0, SHORTS = 1, INTS = 2;
    private static final int MOST_GRAVES = 6, MOST_SLEEPERS = 5, MOST_MEMORY = 27;
    private static final int DREAMER = 1, DOUBLE = 2, WRONG = 3, WIFE = 4, GIRL = 5;
    private static final int LAST_YEAR = 999, MOST_YEARS = 24, MOST_ACTS = 24, IMAGES = 2;
    private static final int FORETOLD_YEARS = 40, SUPPER_YEARS = 3, WHO_YEARS = 12, WHISPER_YEARS = 6;
    private static final int MOST_SEED = 999999, CASES = 10, MOST_TRACED = 16;
    private static final int ASK_SIZE = 0, ASK_MARK = 1;

    private final Row[] rows = new Row[ROWS];
    private final Tape tape = new Tape();
    private final Yard yard = new Yard();
    private final Past past = new Past();
    private final Yard[] images = new Yard[IMAGES];
    private final Seer seer = new Seer();
    private final Asker asker = new Asker();
    private int finding;

    public DreamGraves() {
        for (int r = 0; r < ROWS; r++) {
            rows[r] = new Row();
        }
        for (int k = 0; k < IMAGES; k++) {
            images[k] = new Yard();
        }
    }

    // ---- rows

    public int row(int row, int lane, int n) {
        if (!isRow(row) || lane < BYTES || lane > INTS || n > MOST_ITEMS) {
            return BAD;
        }
        if (n < 0) {
            return found(SIZE);
        }
        rows[row].lay(lane, n);
        return sound(n);
    }

    public int set(int row, int i, int v) {
        if (!isRow(row)) {
            return BAD;
        }
        Row one = rows[row];
        int wrong = one.findingAt(i, 1);
        return wrong != 0 ? found(wrong) : sound(one.put(i, v));
    }

    public int copy(int a, int i, int b, int j, int n) {
        if (!isRow(a) || !isRow(b)) {
            return BAD;
        }
        Row from = rows[a];
        Row to = rows[b];
        if (from.isMissing() || to.isMissing()) {
            return found(NULL);
        }
        if (from.lane != to.lane) {
            return found(STORE);
        }
        if (!from.holds(i, n) || !to.holds(j, n)) {
            return found(PLACE);
        }
        System.arraycopy(from.items, i, to.items, j, n);
        return sound(n);
    }

    public int drop(int row) {
        if (!isRow(row)) {
            return BAD;
        }
        Row one = rows[row];
        if (one.isMissing()) {
            return found(NULL);
        }
        int had = one.size;
        one.lay(MISSING, 0);
        return sound(had);
    }

    // ---- what is told

    public int feed(int letter) {
        if (letter < 0 || letter > 255) {
            return BAD;
        }
        return tape.add(letter) ? tape.size : FULL;
    }

    public int yard() {
        int place = tape.read();
        if (place != Tape.NO_FAULT) {
            return FAULTS - place;
        }
        yard.become(tape.draft);
        past.clear();
        return yard.sleepers;
    }

    public int fault() {
        return tape.latestFault;
    }

    public int undo() {
        return past.giveBack(yard) ? past.size : STATE;
    }

    // ---- what is done

    public int years(int n) {
        if (noYard()) {
            return STATE;
        }
        if (n < 1 || n > MOST_YEARS) {
            return BAD;
        }
        if (yard.year + n > LAST_YEAR) {
            return FULL;
        }
        for (int y = 0; y < n; y++) {
            past.keep(yard);
            yard.pass();
        }
        return yard.kept;
    }

    public int supper(int sleeper) {
        if (!isSleeper(sleeper)) {
            return BAD;
        }
        if (hasBit(yard.suppers, sleeper)) {
            return STATE;
        }
        past.keep(yard);
        yard.suppers |= bit(sleeper);
        return Integer.bitCount(yard.suppers);
    }

    public int fever(int sleeper) {
        if (!isSleeper(sleeper)) {
            return BAD;
        }
        if (hasBit(yard.fevers, sleeper)) {
            return STATE;
        }
        past.keep(yard);
        yard.fevers |= bit(sleeper);
        return yard.dreamsOf(sleeper);
    }

    public int tell(int sleeper, int grave) {
        if (!isSleeper(sleeper) || !isGrave(grave)) {
            return BAD;
        }
        if (!hasBit(yard.kept, grave)) {
            return STATE;
        }
        past.keep(yard);
        int before = yard.memoryOf(sleeper, grave);
        yard.remember(sleeper, grave, MOST_MEMORY);
        return before;
    }

    public int bury(int grave, int sleeper) {
        if (!isSleeper(sleeper) || !isGrave(grave)) {
            return BAD;
        }
        if (hasBit(yard.kept, grave)) {
            return STATE;
        }
        past.keep(yard);
        yard.kept |= bit(grave);
        yard.remember(sleeper, grave, MOST_MEMORY);
        return yard.kept;
    }

    public int sleeper(int sleeper, int what) {
        if (!isSleeper(sleeper)) {
            return BAD;
        }
        switch (what) {
            case 0: return yard.dreamsOf(sleeper);
            case 1: return yard.allMemoryOf(sleeper);
            case 2: return hasBit(yard.suppers, sleeper) ? 1 : 0;
            case 3: return hasBit(yard.fevers, sleeper) ? 1 : 0;
            default: return BAD;
        }
    }

    public int memory(int sleeper, int grave) {
        return isSleeper(sleeper) && isGrave(grave) ? yard.memoryOf(sleeper, grave) : BAD;
    }

    public int grave(int grave, int what) {
        if (noYard()) {
            return STATE;
        }
        if (!isGrave(grave)) {
            return BAD;
        }
        switch (what) {
            case 0: return hasBit(yard.kept, grave) ? 1 : 0;
            case 1: return yard.dreamersOf(grave);
            default: return BAD;
        }
    }

    // ---- foretold

    public int ahead(int n) {
        if (noYard()) {
            return STATE;
        }
        return n < 0 || n > FORETOLD_YEARS ? BAD : seer.keptBehind(yard, n);
    }

    public int dug(int grave) {
        if (noYard()) {
            return STATE;
        }
        return isGrave(grave) ? seer.yearsTillDug(yard, grave, false) : BAD;
    }

    public int firstDug() {
        return noYard() ? STATE : seer.graveDugFirst(yard);
    }

    public int suppers(int graves, int n, int j) {
        if (noYard()) {
            return STATE;
        }
        if (graves < 0 || graves >= bit(yard.graves) || n < 1 || n > SUPPER_YEARS || j < -1) {
            return BAD;
        }
        if (!seer.findFewestSuppers(yard, graves, n) || j >= n) {
            return NONE;
        }
        return j < 0 ? seer.fewest : seer.way[j];
    }

    public int bound(int grave) {
        if (noYard()) {
            return STATE;
        }
        return isGrave(grave) ? seer.yearsTillDug(yard, grave, true) : BAD;
    }

    public int forgets(int sleeper, int grave) {
        return isSleeper(sleeper) && isGrave(grave) ? seer.yearsTillForgotten(yard, sleeper, grave) : BAD;
    }

    public int most(int sleeper, int what) {
        if (!isSleeper(sleeper) || what < 0 || what > 1) {
            return BAD;
        }
        int grave = yard.clearest(sleeper, bit(yard.graves) - 1, 0);
        return what == 0 ? grave : yard.memoryOf(sleeper, grave);
    }

    public int pair(int sleeper, int other) {
        if (!isSleeper(sleeper) || !isSleeper(other) || sleeper == other) {
            return BAD;
        }
        return yard.dreamsOf(sleeper) & yard.dreamsOf(other);
    }

    public int who(int sleeper, int row, int i, int n) {
        if (!isSleeper(sleeper) || !isRow(row) || n < 1 || n > WHO_YEARS) {
            return BAD;
        }
        int wrong = rows[row].findingAt(i, n);
        return wrong != 0 ? found(wrong) : sound(seer.kindsBy(yard, sleeper, rows[row], i, n));
    }

    public int whispered(int grave, int row, int i, int n) {
        if (noYard()) {
            return STATE;
        }
        if (!isGrave(grave) || !isRow(row) || n < 1 || n > WHISPER_YEARS) {
            return BAD;
        }
        int wrong = rows[row].findingAt(i, n);
        return wrong != 0 ? found(wrong) : sound(seer.whisperersBy(yard, grave, rows[row], i, n));
    }

    public int cheese(int n) {
        if (noYard()) {
            return STATE;
        }
        return n < 1 || n > FORETOLD_YEARS ? BAD : seer.suppersNeeded(yard, n);
    }

    public long awake(int grave, int p, int what) {
        if (noYard()) {
            return STATE;
        }
        if (!isGrave(grave) || p < 0 || p > CASES || what < 0 || what > 1) {
            return BAD;
        }
        return seer.chanceOfKeeping(yard, grave, p, what == 0);
    }

    public int drawn(int n, int seed, int what) {
        if (noYard()) {
            return STATE;
        }
        if (n < 0 || n > FORETOLD_YEARS || seed < 1 || seed > MOST_SEED || what < 0 || what > 1) {
            return BAD;
        }
        Yard then = seer.yearsByDraws(yard, n, seed);
        return what == 0 ? then.kept : then.allMemory();
    }

    public int image(int k) {
        if (k < 0 || k >= IMAGES) {
            return BAD;
        }
        if (noYard()) {
            return STATE;
        }
        images[k].become(yard);
        return 1;
    }

    public int restore(int k) {
        if (k < 0 || k >= IMAGES) {
            return BAD;
        }
        if (images[k].isNone()) {
            return STATE;
        }
        yard.become(images[k]);
        past.clear();
        return 1;
    }

    // ---- asked

    public int kind(int one) {
        return isSleeper(one) ? yard.kinds[one] : BAD;
    }

    public int as(int one, int kind) {
        if (!isSleeper(one) || kind < 0 || kind > GIRL) {
            return BAD;
        }
        return isOfKind(yard.kinds[one], kind) ? sound(one) : found(KIND);
    }

    public int ask(int one, int what) {
        if (!isSleeper(one) || what < ASK_SIZE || what > ASK_MARK) {
            return BAD;
        }
        return asker.answer(yard, one, what);
    }

    public int trace(int i) {
        return i < 0 || i >= asker.traced ? NONE : asker.left[i];
    }

    public int count(int what) {
        switch (what) {
            case 0: return rowsThere();
            case 1: return yard.graves;
            case 2: return yard.sleepers;
            case 3: return yard.year;
            case 4: return yard.kept;
            case 5: return yard.suppers;
            case 6: return past.size;
            case 7: return tape.size;
            default: return BAD;
        }
    }

    public int status() {
        return finding;
    }

    // ---- shared by the calls

    private int found(int number) {
        finding = number;
        return FINDINGS - number;
    }

    private int sound(int answer) {
        finding = 0;
        return answer;
    }

    private static boolean isRow(int row) {
        return row >= 0 && row < ROWS;
    }

    private boolean noYard() {
        return yard.isNone();
    }

    private boolean isSleeper(int s) {
        return s >= 0 && s < yard.sleepers;
    }

    private boolean isGrave(int g) {
        return g >= 0 && g < yard.graves;
    }

    private int rowsThere() {
        int there = 0;
        for (int r = 0; r < ROWS; r++) {
            if (!rows[r].isMissing()) {
                there++;
            }
        }
        return there;
    }

    private static boolean isOfKind(int own, int kind) {
        boolean isDreamer = own == DREAMER || own == DOUBLE || own == WRONG;
        switch (kind) {
            case 0: return true;
            case DREAMER: return isDreamer;
            case WIFE: return !isDreamer;
            default: return own == kind;
        }
    }

    /** The set of one number; of a number below 0, which stands for none, the empty set. */
    private static int bit(int number) {
        return number < 0 ? 0 : 1 << number;
    }

    private static boolean hasBit(int bits, int number) {
        return number >= 0 && (bits >> number & 1) != 0;
    }

    /** One of the rows; its items are made once and laid anew, so that no call makes any. */
    private static final class Row {
        int lane = MISSING;
        int size;
        final int[] items = new int[MOST_ITEMS];

        boolean isMissing() {
            return lane == MISSING;
        }

        void lay(int newLane, int n) {
            lane = newLane;
            size = n;
            Arrays.fill(items, 0);
        }

        /** Whether there are n items from i on; told so that no sum can overflow. */
        boolean holds(int i, int n) {
            return i >= 0 && n >= 0 && n <= size && i <= size - n;
        }

        int findingAt(int i, int n) {
            if (isMissing()) {
                return NULL;
            }
            return holds(i, n) ? 0 : PLACE;
        }

        int put(int i, int v) {
            int kept = lane == BYTES ? (byte) v : lane == SHORTS ? (short) v : v;
            items[i] = kept;
            return kept;
        }
    }

    /** The bytes that were fed, and the reading of them into a draft of a yard. */
    private static final class Tape {
        static final int NO_FAULT = -1;
        private static final int END = -1, NUMBER = -2, NO_TOKEN = -3;
        private static final int MISPLACED = 1, NOT_AS_TOLD = 2, NO_ROOM = 3;
        private static final int MOST_FIGURES = 2, MOST_LEAST = 9, LEAST_SHARE = 2, MOST_SHARE = 9;

        final Yard draft = new Yard();
        int size;
        int latestFault;
        private final int[] bytes = new int[MOST_BYTES];
        private int start;
        private int behind;
        private int token;
        private int value;
        private int taken;

        boolean add(int letter) {
            if (size >= MOST_BYTES) {
                return false;
            }
            bytes[size] = letter;
            size++;
            return true;
        }

        /** Empties the tape into the draft: NO_FAULT, or the place of the first fault. */
        int read() {
            draft.clear();
            behind = 0;
            nextToken();
            boolean whole = readLaw() && readSleepers();
            size = 0;
            return whole ? NO_FAULT : start;
        }

        private boolean readLaw() {
            if (!takeSign('g') || !takeNumber(1, MOST_GRAVES)) {
                return false;
            }
            draft.graves = taken;
            draft.kept = bit(taken) - 1;
            if (!takeSign(',') || !takeNumber(1, MOST_LEAST)) {
                return false;
            }
            draft.least = taken;
            if (!takeSign(',') || !takeNumber(LEAST_SHARE, MOST_SHARE)) {
                return false;
            }
            draft.share = taken;
            return takeSign(';');
        }

        private boolean readSleepers() {
            for (int s = 0; s < MOST_SLEEPERS; s++) {
                if (s > 0 && token == END) {
                    return true;
                }
                if (!readSleeper(s)) {
                    return false;
                }
            }
            return token == END || fail(kindTold(token) == 0 ? MISPLACED : NO_ROOM);
        }

        private boolean readSleeper(int s) {
            int kind = kindTold(token);
            if (kind == 0) {
                return fail(MISPLACED);
            }
            nextToken();
            draft.kinds[s] = kind;
            draft.sleepers = s + 1;
            for (int g = 0; g < draft.graves; g++) {
                if (g > 0 && !takeSign(',')) {
                    return false;
                }
                if (!takeNumber(0, MOST_MEMORY)) {
                    return false;
                }
                draft.remember(s, g, taken);
            }
            return takeSign(';');
        }

        private static int kindTold(int letter) {
            switch (letter) {
                case 'd': return DREAMER;
                case 't': return DOUBLE;
                case 'w': return WRONG;
                case 's': return WIFE;
                case 'm': return GIRL;
                default: return 0;
            }
        }

        private boolean fail(int number) {
            latestFault = number;
            return false;
        }

        private boolean takeSign(int sign) {
            if (token != sign) {
                return fail(MISPLACED);
            }
            nextToken();
            return true;
        }

        private boolean takeNumber(int least, int most) {
            if (token != NUMBER) {
                return fail(MISPLACED);
            }
            if (value < least || value > most) {
                return fail(NOT_AS_TOLD);
            }
            taken = value;
            nextToken();
            return true;
        }

        private void nextToken() {
            start = behind;
            if (start >= size) {
                token = END;
                return;
            }
            int first = bytes[start];
            if (isFigure(first)) {
                takeFigures();
                return;
            }
            behind = start + 1;
            token = first >= 'a' && first <= 'z' || first == ',' || first == ';' ? first : NO_TOKEN;
        }

        private void takeFigures() {
            value = 0;
            while (behind < size && isFigure(bytes[behind])) {
                // Figures beyond the second are passed over: the run is no number then.
                if (behind - start < MOST_FIGURES) {
                    value = value * 10 + bytes[behind] - '0';
                }
                behind++;
            }
            token = behind - start > MOST_FIGURES ? NO_TOKEN : NUMBER;
        }

        private static boolean isFigure(int letter) {
            return letter >= '0' && letter <= '9';
        }
    }

    /**
     * A yard in one year: its law, its sleepers, what is kept, who remembers what; no graves: none.
     * Graves and sleepers that there are not are not kept, remember nothing and are of no kind, so
     * that loops may go over all there is room for.
     */
    private static final class Yard {
        int graves;
        int least;
        int share;
        int sleepers;
        int year;
        int kept;
        int suppers;
        int fevers;
        final int[] kinds = new int[MOST_SLEEPERS];
        private final int[] memories = new int[MOST_SLEEPERS * MOST_GRAVES];

        boolean isNone() {
            return graves == 0;
        }

        void clear() {
            graves = 0;
            least = 0;
            share = 0;
            sleepers = 0;
            year = 0;
            kept = 0;
            suppers = 0;
            fevers = 0;
            Arrays.fill(kinds, 0);
            Arrays.fill(memories, 0);
        }

        void become(Yard other) {
            graves = other.graves;
            least = other.least;
            share = other.share;
            sleepers = other.sleepers;
            year = other.year;
            kept = other.kept;
            suppers = other.suppers;
            fevers = other.fevers;
            System.arraycopy(other.kinds, 0, kinds, 0, MOST_SLEEPERS);
            System.arraycopy(other.memories, 0, memories, 0, MOST_SLEEPERS * MOST_GRAVES);
        }

        private static boolean hasRoom(int s, int g) {
            return s >= 0 && s < MOST_SLEEPERS && g >= 0 && g < MOST_GRAVES;
        }

        int memoryOf(int s, int g) {
            return hasRoom(s, g) ? memories[s * MOST_GRAVES + g] : 0;
        }

        void remember(int s, int g, int memory) {
            if (hasRoom(s, g)) {
                memories[s * MOST_GRAVES + g] = memory;
            }
        }

        int allMemoryOf(int s) {
            int all = 0;
            for (int g = 0; g < MOST_GRAVES; g++) {
                all += memoryOf(s, g);
            }
            return all;
        }

        int allMemory() {
            int all = 0;
            for (int s = 0; s < MOST_SLEEPERS; s++) {
                all += allMemoryOf(s);
            }
            return all;
        }

        /** Of some graves the first with most memory, if it is enough; NONE: there is none. */
        int clearest(int s, int among, int enough) {
            int best = NONE;
            if (!hasRoom(s, 0)) {
                return best;
            }
            int bestMemory = enough - 1;
            for (int g = 0; g < MOST_GRAVES; g++) {
                int memory = memories[s * MOST_GRAVES + g];
                if (memory > bestMemory && hasBit(among, g)) {
                    best = g;
                    bestMemory = memory;
                }
            }
            return best;
        }

        int dreamsOf(int s) {
            if (!hasRoom(s, 0)) {
                return 0;
            }
            int fevered = hasBit(fevers, s) ? kept & rememberedBy(s) : 0;
            int first = clearest(s, kept, least);
            switch (kinds[s]) {
                case DREAMER: return fevered | bit(first);
                case DOUBLE: return fevered | bit(first) | bit(clearest(s, kept & ~bit(first), least));
                case WRONG: return fevered | bit(nextBehind(first));
                case WIFE: return fevered | bit(graveOfYear());
                case GIRL: return fevered | bit(graveOfYear()) | bit(0);
                default: return 0;
            }
        }

        private int nextBehind(int g) {
            return g < 0 || graves < 1 ? NONE : (g + 1) % graves;
        }

        private int graveOfYear() {
            return graves < 1 ? NONE : year % graves;
        }

        private int rememberedBy(int s) {
            int remembered = 0;
            for (int g = 0; g < MOST_GRAVES && hasRoom(s, g); g++) {
                if (memories[s * MOST_GRAVES + g] > 0) {
                    remembered |= bit(g);
                }
            }
            return remembered;
        }

        int dreamersOf(int g) {
            int dreamers = 0;
            for (int s = 0; s < MOST_SLEEPERS; s++) {
                if (hasBit(dreamsOf(s), g)) {
                    dreamers |= bit(s);
                }
            }
            return dreamers;
        }

        void pass() {
            digUndreamt();
            endYear();
        }

        void digUndreamt() {
            int dreamt = 0;
            for (int s = 0; s < MOST_SLEEPERS; s++) {
                dreamt |= dreamsOf(s);
            }
            int lost = kept & ~dreamt;
            kept &= dreamt;
            for (int g = 0; g < MOST_GRAVES; g++) {
                if (hasBit(lost, g)) {
                    forgetByAll(g);
                }
            }
        }

        private void forgetByAll(int g) {
            for (int s = 0; s < MOST_SLEEPERS; s++) {
                remember(s, g, 0);
            }
        }

        void endYear() {
            for (int s = 0; s < MOST_SLEEPERS; s++) {
                if (!hasBit(suppers, s)) {
                    fadeFor(s);
                }
            }
            suppers = 0;
            fevers = 0;
            year++;
        }

        private void fadeFor(int s) {
            for (int g = 0; g < MOST_GRAVES && hasRoom(s, g); g++) {
                int cell = s * MOST_GRAVES + g;
                memories[cell] = faded(memories[cell]);
            }
        }

        int faded(int memory) {
            return memory < 1 || share < 1 ? 0 : memory - memory / share - 1;
        }

        /** Who has enough memory of a kept grave, but without a supper would not behind this year. */
        int inNeed() {
            int needy = 0;
            for (int s = 0; s < MOST_SLEEPERS; s++) {
                // Fading keeps the order of memories, so the clearest grave tells for all of them.
                int clearest = clearest(s, kept, least);
                if (clearest >= 0 && faded(memoryOf(s, clearest)) < least) {
                    needy |= bit(s);
                }
            }
            return needy;
        }
    }

    /** The yard as it was ahead of each act that can be undone, in a ring. */
    private static final class Past {
        int size;
        private int oldest;
        private final Yard[] yards = new Yard[MOST_ACTS];

        Past() {
            for (int a = 0; a < MOST_ACTS; a++) {
                yards[a] = new Yard();
            }
        }

        void clear() {
            size = 0;
            oldest = 0;
        }

        void keep(Yard now) {
            yards[(oldest + size) % MOST_ACTS].become(now);
            if (size < MOST_ACTS) {
                size++;
            } else {
                oldest = (oldest + 1) % MOST_ACTS;
            }
        }

        boolean giveBack(Yard now) {
            if (size < 1) {
                return false;
            }
            size--;
            now.become(yards[(oldest + size) % MOST_ACTS]);
            return true;
        }
    }

    /** What is foretold: it looks at copies of the yard, so that nothing changes. */
    private static final class Seer {
        private static final long FACTOR = 16807, MODULUS = 2147483647;
        private static final int NO_WAY = SUPPER_YEARS * MOST_SLEEPERS + 1, MOST_STEPS = 64;

        int fewest;
        final int[] way = new int[SUPPER_YEARS];
        private final int[] given = new int[SUPPER_YEARS];
        private final Yard[] seen = new Yard[SUPPER_YEARS];

        Seer() {
            for (int y = 0; y < SUPPER_YEARS; y++) {
                seen[y] = new Yard();
            }
        }

        private Yard copyOf(Yard now) {
            seen[0].become(now);
            return seen[0];
        }

        int keptBehind(Yard now, int n) {
            Yard then = copyOf(now);
            for (int y = 0; y < n; y++) {
                then.pass();
            }
            return then.kept;
        }

        int yearsTillDug(Yard now, int grave, boolean allSup) {
            Yard then = copyOf(now);
            for (int y = 0; y <= FORETOLD_YEARS; y++) {
                if (!hasBit(then.kept, grave)) {
                    return y;
                }
                if (allSup) {
                    then.suppers = bit(then.sleepers) - 1;
                }
                then.pass();
            }
            return NONE;
        }

        int graveDugFirst(Yard now) {
            Yard then = copyOf(now);
            for (int y = 0; y < FORETOLD_YEARS; y++) {
                then.pass();
                if (then.kept != now.kept) {
                    return firstOf(now.kept & ~then.kept);
                }
            }
            return NONE;
        }

        private static int firstOf(int graves) {
            for (int g = 0; g < MOST_GRAVES; g++) {
                if (hasBit(graves, g)) {
                    return g;
                }
            }
            return NONE;
        }

        /** Leaves the fewest suppers and the first way of giving them; false: there is none. */
        boolean findFewestSuppers(Yard now, int wanted, int n) {
            fewest = NO_WAY;
            copyOf(now);
            tryYear(0, n, wanted, 0);
            return fewest < NO_WAY;
        }

        /** Goes on from the yard that is seen ahead of year y, for all guests of the years from it on. */
        private void tryYear(int y, int n, int wanted, int spent) {
            if (y < 0 || y >= n || n > SUPPER_YEARS) {
                return;
            }
            Yard then = seen[y];
            then.digUndreamt();
            if ((wanted & ~then.kept) != 0) {
                return;
            }
            given[y] = 0;
            // What is dug in a year is dug ahead of its fading, so no supper of the last one helps.
            if (y == n - 1) {
                fewest = spent;
                System.arraycopy(given, 0, way, 0, SUPPER_YEARS);
                return;
            }
            for (int guests = 0; guests < bit(then.sleepers); guests++) {
                int cost = spent + Integer.bitCount(guests);
                // Only a cheaper way replaces the first one; who has a supper already needs no second.
                if (cost < fewest && (guests & then.suppers) == 0) {
                    given[y] = guests;
                    seen[y + 1].become(then);
                    seen[y + 1].suppers |= guests;
                    seen[y + 1].endYear();
                    tryYear(y + 1, n, wanted, cost);
                }
            }
        }

        int yearsTillForgotten(Yard now, int sleeper, int grave) {
            int memory = now.memoryOf(sleeper, grave);
            for (int y = 0; y <= FORETOLD_YEARS; y++) {
                if (memory < now.least) {
                    return y;
                }
                memory = now.faded(memory);
            }
            return NONE;
        }

        int kindsBy(Yard now, int sleeper, Row told, int i, int n) {
            int kinds = 0;
            if (sleeper < 0 || sleeper >= MOST_SLEEPERS) {
                return kinds;
            }
            for (int kind = DREAMER; kind <= GIRL; kind++) {
                Yard then = copyOf(now);
                then.kinds[sleeper] = kind;
                if (goesAsTold(then, told, i, n)) {
                    kinds |= bit(kind);
                }
            }
            return kinds;
        }

        int whisperersBy(Yard now, int grave, Row told, int i, int n) {
            int sleepers = 0;
            for (int s = 0; s < now.sleepers; s++) {
                Yard then = copyOf(now);
                then.remember(s, grave, MOST_MEMORY);
                if (goesAsTold(then, told, i, n)) {
                    sleepers |= bit(s);
                }
            }
            return sleepers;
        }

        private static boolean goesAsTold(Yard then, Row told, int i, int n) {
            if (!told.holds(i, n)) {
                return false;
            }
            for (int y = 0; y < n; y++) {
                then.pass();
                if (then.kept != told.items[i + y]) {
                    return false;
                }
            }
            return true;
        }

        int suppersNeeded(Yard now, int n) {
            Yard then = copyOf(now);
            int needed = 0;
            for (int y = 0; y < n; y++) {
                then.suppers = then.inNeed();
                needed += Integer.bitCount(then.suppers);
                then.pass();
            }
            return needed;
        }

        /** The grave is lost if all who dream of it lie awake: the chance of the rest, above or below. */
        long chanceOfKeeping(Yard now, int grave, int p, boolean above) {
            long all = 1;
            long lost = 1;
            if (hasBit(now.kept, grave)) {
                int dreamers = Integer.bitCount(now.dreamersOf(grave));
                for (int d = 0; d < dreamers; d++) {
                    all *= CASES;
                    lost *= p;
                }
            }
            long common = commonDivisor(all, all - lost);
            return (above ? all - lost : all) / common;
        }

        private static long commonDivisor(long a, long b) {
            long divisor = a;
            long rest = b;
            for (int step = 0; step < MOST_STEPS && rest != 0; step++) {
                long next = divisor % rest;
                divisor = rest;
                rest = next;
            }
            return divisor < 1 ? 1 : divisor;
        }

        Yard yearsByDraws(Yard now, int n, int seed) {
            Yard then = copyOf(now);
            long x = seed;
            for (int y = 0; y < n && then.sleepers > 0; y++) {
                x = x * FACTOR % MODULUS;
                then.suppers |= bit((int) (x % then.sleepers));
                int feverish = (int) (x % MOST_SLEEPERS);
                if (x % 3 == 0 && feverish < then.sleepers) {
                    then.fevers |= bit(feverish);
                }
                then.pass();
            }
            return then;
        }
    }

    /** The asks of sleepers, by bodies that leave their numbers in the trace as they begin. */
    private static final class Asker {
        /** By kinds: the body told for it, or for the nearest kind that it is, too. */
        private static final int[] SIZE_BODIES = {10, 11, 12, 11, 13, 14};
        private static final int[] MARK_BODIES = {20, 21, 24, 22, 23, 23};
        private static final int DEEPEST = 8;

        int traced;
        final int[] left = new int[MOST_TRACED];

        int answer(Yard yard, int one, int what) {
            traced = 0;
            return what == ASK_SIZE ? sizeOf(yard, one, 0) : markOf(yard, one, 0);
        }

        private int sizeOf(Yard yard, int one, int depth) {
            return give(SIZE_BODIES[kindOf(yard, one)], yard, one, depth);
        }

        private int markOf(Yard yard, int one, int depth) {
            return give(MARK_BODIES[kindOf(yard, one)], yard, one, depth);
        }

        private static int kindOf(Yard yard, int one) {
            int kind = one < 0 || one >= MOST_SLEEPERS ? 0 : yard.kinds[one];
            return kind < 0 || kind > GIRL ? 0 : kind;
        }

        /** What a body gives. No ask goes deeper than six bodies; the depth guards that. */
        private int give(int body, Yard yard, int one, int depth) {
            if (depth > DEEPEST) {
                return 0;
            }
            leave(body);
            int deeper = depth + 1;
            switch (body) {
                case 10: return yard.allMemoryOf(one);
                case 11: return give(10, yard, one, deeper) + markOf(yard, one, deeper);
                case 12: return 0 - give(11, yard, one, deeper);
                case 13: return give(10, yard, one, deeper) - 100;
                case 14: return give(13, yard, one, deeper) * 2;
                case 20: return one;
                case 21: return give(20, yard, one, deeper) + yard.memoryOf(one, 0);
                case 22: return give(21, yard, one, deeper) - 1000;
                case 23: return give(20, yard, one, deeper) - sizeOf(yard, one, deeper);
                case 24: return give(21, yard, one, deeper) * 2;
                default: return 0;
            }
        }

        private void leave(int body) {
            if (traced < MOST_TRACED) {
                left[traced] = body;
                traced++;
            }
        }
    }
}
