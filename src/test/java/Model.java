import java.util.ArrayDeque;
import java.util.ArrayList;
import java.util.Arrays;
import java.util.Deque;
import java.util.List;
import java.util.Map;
import java.util.TreeMap;
import java.util.TreeSet;
import java.util.function.IntPredicate;

/** The document told a second time, slowly and with the whole library, to hold the class against. */
public final class Model {
    private static final int NONE = -1000000, BAD = -1000001, STATE = -1000002, FULL = -1000003;

    /** A yard at a moment; years make new ones. */
    private static final class World {
        int graves;
        int least;
        int share;
        int year;
        String sorts = "";
        List<int[]> memory = new ArrayList<>();
        TreeSet<Integer> kept = new TreeSet<>();
        TreeSet<Integer> fed = new TreeSet<>();
        TreeSet<Integer> hot = new TreeSet<>();

        World twin() {
            World w = new World();
            w.graves = graves;
            w.least = least;
            w.share = share;
            w.year = year;
            w.sorts = sorts;
            for (int[] m : memory) {
                w.memory.add(m.clone());
            }
            w.kept.addAll(kept);
            w.fed.addAll(fed);
            w.hot.addAll(hot);
            return w;
        }

        int sleepers() {
            return sorts.length();
        }

        List<Integer> ranked(int s) {
            List<Integer> order = new ArrayList<>();
            for (int g : kept) {
                if (memory.get(s)[g] >= least) {
                    order.add(g);
                }
            }
            order.sort((a, b) -> memory.get(s)[b] - memory.get(s)[a]);
            return order;
        }

        TreeSet<Integer> dreams(int s) {
            TreeSet<Integer> seen = new TreeSet<>();
            List<Integer> ranked = ranked(s);
            char sort = sorts.charAt(s);
            if (sort == 'd' || sort == 't') {
                seen.addAll(ranked.subList(0, Math.min(sort == 'd' ? 1 : 2, ranked.size())));
            } else if (sort == 'w') {
                ranked.stream().limit(1).forEach(g -> seen.add(g + 1 == graves ? 0 : g + 1));
            } else {
                seen.add(Math.floorMod(year, graves));
                if (sort == 'm') {
                    seen.add(0);
                }
            }
            if (hot.contains(s)) {
                for (int g : kept) {
                    if (memory.get(s)[g] != 0) {
                        seen.add(g);
                    }
                }
            }
            return seen;
        }

        World next() {
            World w = twin();
            TreeSet<Integer> dreamt = new TreeSet<>();
            for (int s = 0; s < sleepers(); s++) {
                dreamt.addAll(dreams(s));
            }
            for (int g : kept) {
                if (!dreamt.contains(g)) {
                    w.kept.remove(g);
                    w.memory.forEach(m -> m[g] = 0);
                }
            }
            for (int s = 0; s < sleepers(); s++) {
                if (!fed.contains(s)) {
                    int[] m = w.memory.get(s);
                    for (int g = 0; g < graves; g++) {
                        m[g] = less(m[g]);
                    }
                }
            }
            w.fed.clear();
            w.hot.clear();
            w.year = year + 1;
            return w;
        }

        int less(int m) {
            return m == 0 ? 0 : m - (m / share + 1);
        }

        World after(int n) {
            World w = this;
            for (int i = 0; i < n; i++) {
                w = w.next();
            }
            return w;
        }

        /** Behind n years with the suppers of a way, the first year's in its highest bits; told ones stay. */
        World behind(int way, int n, int sets) {
            World w = twin();
            int scale = (int) Math.round(Math.pow(sets, n - 1));
            for (int y = 0; y < n; y++) {
                for (int s = 0; s < sleepers(); s++) {
                    if ((way / scale % sets >> s & 1) != 0) {
                        w.fed.add(s);
                    }
                }
                scale = Math.max(1, scale / sets);
                w = w.next();
            }
            return w;
        }

        void feedAll() {
            for (int s = 0; s < sleepers(); s++) {
                fed.add(s);
            }
        }
    }

    private final Map<Integer, int[]> lanes = new TreeMap<>();
    private final Map<Integer, Integer> laneOf = new TreeMap<>();
    private StringBuilder tape = new StringBuilder();
    private World now = null;
    private final World[] images = new World[2];
    private final Deque<World> acts = new ArrayDeque<>();
    private List<Integer> trace = new ArrayList<>();
    private int fault = 0;
    private int status = 0;

    private static int bits(Iterable<Integer> set) {
        int bits = 0;
        for (int i : set) {
            bits += 1 << i;
        }
        return bits;
    }

    private static boolean in(int v, int least, int most) {
        return least <= v && v <= most;
    }

    private boolean isSleeper(int s) {
        return now != null && in(s, 0, now.sleepers() - 1);
    }

    private boolean isGrave(int g) {
        return now != null && in(g, 0, now.graves - 1);
    }

    private void act() {
        acts.push(now.twin());
        while (acts.size() > 24) {
            acts.removeLast();
        }
    }

    private int finds(int number) {
        status = number;
        return -1000010 - number;
    }

    private int fine(int answer) {
        status = 0;
        return answer;
    }

    private static boolean beyond(int i, int n, int size) {
        return i < 0 || n < 0 || (long) i + n > size;
    }

    public int row(int row, int lane, int n) {
        if (!in(row, 0, 7) || !in(lane, 0, 2) || n > 40) {
            return BAD;
        }
        if (n < 0) {
            return finds(4);
        }
        lanes.put(row, new int[n]);
        laneOf.put(row, lane);
        return fine(n);
    }

    public int set(int row, int i, int v) {
        if (!in(row, 0, 7)) {
            return BAD;
        }
        if (!lanes.containsKey(row)) {
            return finds(1);
        }
        if (beyond(i, 1, lanes.get(row).length)) {
            return finds(2);
        }
        int shift = new int[] {24, 16, 0}[laneOf.get(row)];
        lanes.get(row)[i] = v << shift >> shift;
        return fine(lanes.get(row)[i]);
    }

    public int copy(int a, int i, int b, int j, int n) {
        if (!in(a, 0, 7) || !in(b, 0, 7)) {
            return BAD;
        }
        if (!lanes.containsKey(a) || !lanes.containsKey(b)) {
            return finds(1);
        }
        if (!laneOf.get(a).equals(laneOf.get(b))) {
            return finds(5);
        }
        if (beyond(i, n, lanes.get(a).length) || beyond(j, n, lanes.get(b).length)) {
            return finds(2);
        }
        int[] were = lanes.get(a).clone();
        for (int k = 0; k < n; k++) {
            lanes.get(b)[j + k] = were[i + k];
        }
        return fine(n);
    }

    public int drop(int row) {
        if (!in(row, 0, 7)) {
            return BAD;
        }
        int[] had = lanes.remove(row);
        return had == null ? finds(1) : fine(had.length);
    }

    public int feed(int letter) {
        if (!in(letter, 0, 255)) {
            return BAD;
        }
        if (tape.length() == 120) {
            return FULL;
        }
        tape.append((char) letter);
        return tape.length();
    }

    /** The tape's words: a letter or sign, a run of figures, or a byte that is none; and the end. */
    private static TreeMap<Integer, String> words(String text) {
        TreeMap<Integer, String> words = new TreeMap<>();
        java.util.regex.Matcher m = java.util.regex.Pattern.compile("[0-9]+|[\\x00-\\xff]").matcher(text);
        while (m.find()) {
            words.put(m.start(), m.group());
        }
        words.put(text.length(), "END");
        return words;
    }

    public int yard() {
        TreeMap<Integer, String> words = words(tape.toString());
        tape = new StringBuilder();
        World w = new World();
        // What is due: letters and signs as they are, or least-most of a number, or SORT, or MORE.
        Deque<String> due = new ArrayDeque<>(List.of("g", "1-6", ",", "1-9", ",", "2-9", ";", "SORT"));
        List<Integer> numbers = new ArrayList<>();
        for (Map.Entry<Integer, String> word : words.entrySet()) {
            int wrong = wordFault(word.getValue(), due.remove(), numbers, w, due);
            if (wrong != 0) {
                fault = wrong;
                return -1000100 - word.getKey();
            }
        }
        w.least = numbers.get(1);
        w.share = numbers.get(2);
        for (int s = 0; s < w.sleepers(); s++) {
            int[] m = new int[w.graves];
            for (int g = 0; g < w.graves; g++) {
                m[g] = numbers.get(3 + s * w.graves + g);
                w.kept.add(g);
            }
            w.memory.add(m);
        }
        now = w;
        acts.clear();
        return w.sleepers();
    }

    private static int wordFault(String word, String due, List<Integer> numbers, World w, Deque<String> dues) {
        if (due.equals("MORE") && word.equals("END")) {
            return 0;
        }
        if (due.equals("SORT") || due.equals("MORE")) {
            if (!"dtwsm".contains(word) || word.length() != 1) {
                return 1;
            }
            if (w.sleepers() == 5) {
                return 3;
            }
            w.sorts += word;
            w.graves = numbers.get(0);
            for (int g = 0; g < w.graves; g++) {
                dues.add("0-27");
                dues.add(g == w.graves - 1 ? ";" : ",");
            }
            dues.add("MORE");
            return 0;
        }
        if (due.contains("-")) {
            if (!word.matches("[0-9]{1,2}")) {
                return 1;
            }
            String[] ends = due.split("-");
            int number = Integer.parseInt(word);
            numbers.add(number);
            return in(number, Integer.parseInt(ends[0]), Integer.parseInt(ends[1])) ? 0 : 2;
        }
        return word.equals(due) ? 0 : 1;
    }

    public int fault() {
        return fault;
    }

    public int undo() {
        if (acts.isEmpty()) {
            return STATE;
        }
        now = acts.pop();
        return acts.size();
    }

    public int years(int n) {
        if (now == null) {
            return STATE;
        }
        if (!in(n, 1, 24)) {
            return BAD;
        }
        if (now.year + n > 999) {
            return FULL;
        }
        for (int i = 0; i < n; i++) {
            act();
            now = now.next();
        }
        return bits(now.kept);
    }

    public int supper(int sleeper) {
        if (!isSleeper(sleeper)) {
            return BAD;
        }
        if (now.fed.contains(sleeper)) {
            return STATE;
        }
        act();
        now.fed.add(sleeper);
        return now.fed.size();
    }

    public int fever(int sleeper) {
        if (!isSleeper(sleeper)) {
            return BAD;
        }
        if (now.hot.contains(sleeper)) {
            return STATE;
        }
        act();
        now.hot.add(sleeper);
        return bits(now.dreams(sleeper));
    }

    public int tell(int sleeper, int grave) {
        if (!isSleeper(sleeper) || !isGrave(grave)) {
            return BAD;
        }
        if (!now.kept.contains(grave)) {
            return STATE;
        }
        act();
        int was = now.memory.get(sleeper)[grave];
        now.memory.get(sleeper)[grave] = 27;
        return was;
    }

    public int bury(int grave, int sleeper) {
        if (!isSleeper(sleeper) || !isGrave(grave)) {
            return BAD;
        }
        if (now.kept.contains(grave)) {
            return STATE;
        }
        act();
        now.kept.add(grave);
        now.memory.get(sleeper)[grave] = 27;
        return bits(now.kept);
    }

    public int sleeper(int sleeper, int what) {
        if (!isSleeper(sleeper) || !in(what, 0, 3)) {
            return BAD;
        }
        int[] answers = {bits(now.dreams(sleeper)), Arrays.stream(now.memory.get(sleeper)).sum(),
            now.fed.contains(sleeper) ? 1 : 0, now.hot.contains(sleeper) ? 1 : 0};
        return answers[what];
    }

    public int memory(int sleeper, int grave) {
        return isSleeper(sleeper) && isGrave(grave) ? now.memory.get(sleeper)[grave] : BAD;
    }

    public int grave(int grave, int what) {
        if (now == null) {
            return STATE;
        }
        if (!isGrave(grave) || !in(what, 0, 1)) {
            return BAD;
        }
        return what == 0 ? (now.kept.contains(grave) ? 1 : 0) : bits(where(s -> now.dreams(s).contains(grave)));
    }

    private List<Integer> where(IntPredicate is) {
        List<Integer> found = new ArrayList<>();
        for (int s = 0; s < now.sleepers(); s++) {
            if (is.test(s)) {
                found.add(s);
            }
        }
        return found;
    }

    public int ahead(int n) {
        return now == null ? STATE : in(n, 0, 40) ? bits(now.after(n).kept) : BAD;
    }

    public int dug(int grave) {
        if (now == null) {
            return STATE;
        }
        if (!isGrave(grave)) {
            return BAD;
        }
        for (int n = 0; n <= 40; n++) {
            if (!now.after(n).kept.contains(grave)) {
                return n;
            }
        }
        return NONE;
    }

    public int firstDug() {
        if (now == null) {
            return STATE;
        }
        int first = NONE;
        int least = 41;
        for (int g : now.kept) {
            int years = dug(g);
            if (years != NONE && years < least) {
                least = years;
                first = g;
            }
        }
        return first;
    }

    public int suppers(int graves, int n, int j) {
        if (now == null) {
            return STATE;
        }
        if (!in(graves, 0, (1 << now.graves) - 1) || !in(n, 1, 3) || j < -1) {
            return BAD;
        }
        int sets = 1 << now.sleepers();
        int ways = (int) Math.round(Math.pow(sets, n));
        int best = NONE;
        int bestCost = Integer.MAX_VALUE;
        for (int way = 0; way < ways; way++) {
            int cost = Integer.bitCount(way);
            if (cost < bestCost && (bits(now.behind(way, n, sets).kept) & graves) == graves) {
                best = way;
                bestCost = cost;
            }
        }
        if (best == NONE || j >= n) {
            return NONE;
        }
        return j < 0 ? bestCost : best / (int) Math.round(Math.pow(sets, n - 1 - j)) % sets;
    }

    public int bound(int grave) {
        if (now == null) {
            return STATE;
        }
        if (!isGrave(grave)) {
            return BAD;
        }
        World w = now.twin();
        for (int n = 0; n <= 40; n++) {
            if (!w.kept.contains(grave)) {
                return n;
            }
            w.feedAll();
            w = w.next();
        }
        return NONE;
    }

    public int forgets(int sleeper, int grave) {
        if (!isSleeper(sleeper) || !isGrave(grave)) {
            return BAD;
        }
        int m = now.memory.get(sleeper)[grave];
        int n = 0;
        while (m >= now.least && n <= 40) {
            m = now.less(m);
            n++;
        }
        return n > 40 ? NONE : n;
    }

    public int most(int sleeper, int what) {
        if (!isSleeper(sleeper) || !in(what, 0, 1)) {
            return BAD;
        }
        int[] m = now.memory.get(sleeper);
        int much = Arrays.stream(m).max().getAsInt();
        return what == 1 ? much : (int) Arrays.stream(m).takeWhile(v -> v != much).count();
    }

    public int pair(int sleeper, int other) {
        if (!isSleeper(sleeper) || !isSleeper(other) || sleeper == other) {
            return BAD;
        }
        TreeSet<Integer> both = now.dreams(sleeper);
        both.retainAll(now.dreams(other));
        return bits(both);
    }

    private boolean told(World w, int row, int i, int n) {
        for (int k = 0; k < n; k++) {
            if (bits(w.after(k + 1).kept) != lanes.get(row)[i + k]) {
                return false;
            }
        }
        return true;
    }

    public int who(int sleeper, int row, int i, int n) {
        if (!isSleeper(sleeper) || !in(row, 0, 7) || !in(n, 1, 12)) {
            return BAD;
        }
        if (!lanes.containsKey(row)) {
            return finds(1);
        }
        if (beyond(i, n, lanes.get(row).length)) {
            return finds(2);
        }
        int kinds = 0;
        for (int k = 1; k <= 5; k++) {
            World w = now.twin();
            w.sorts = w.sorts.substring(0, sleeper) + "?dtwsm".charAt(k) + w.sorts.substring(sleeper + 1);
            kinds += told(w, row, i, n) ? 1 << k : 0;
        }
        return fine(kinds);
    }

    public int whispered(int grave, int row, int i, int n) {
        if (now == null) {
            return STATE;
        }
        if (!isGrave(grave) || !in(row, 0, 7) || !in(n, 1, 6)) {
            return BAD;
        }
        if (!lanes.containsKey(row)) {
            return finds(1);
        }
        if (beyond(i, n, lanes.get(row).length)) {
            return finds(2);
        }
        return fine(bits(where(s -> {
            World w = now.twin();
            w.memory.get(s)[grave] = 27;
            return told(w, row, i, n);
        })));
    }

    public int cheese(int n) {
        if (now == null) {
            return STATE;
        }
        if (!in(n, 1, 40)) {
            return BAD;
        }
        World w = now.twin();
        int all = 0;
        for (int y = 0; y < n; y++) {
            w.fed.clear();
            for (int s = 0; s < w.sleepers(); s++) {
                boolean with = false;
                boolean without = false;
                for (int g : w.kept) {
                    int m = w.memory.get(s)[g];
                    with |= m >= w.least;
                    without |= w.less(m) >= w.least;
                }
                if (with && !without) {
                    w.fed.add(s);
                }
            }
            all += w.fed.size();
            w = w.next();
        }
        return all;
    }

    /** Adds up all 2 to the sleepers cases of lying awake. */
    public long awake(int grave, int p, int what) {
        if (now == null) {
            return STATE;
        }
        if (!isGrave(grave) || !in(p, 0, 10) || !in(what, 0, 1)) {
            return BAD;
        }
        long good = 0;
        long all = 0;
        for (int up = 0; up < 1 << now.sleepers(); up++) {
            long cases = 1;
            boolean dreamt = false;
            for (int s = 0; s < now.sleepers(); s++) {
                boolean lies = (up >> s & 1) != 0;
                cases *= lies ? p : 10 - p;
                dreamt |= !lies && now.dreams(s).contains(grave);
            }
            all += cases;
            good += dreamt && now.kept.contains(grave) ? cases : 0;
        }
        long common = java.math.BigInteger.valueOf(good).gcd(java.math.BigInteger.valueOf(all)).longValue();
        return (what == 0 ? good : all) / common;
    }

    public int drawn(int n, int seed, int what) {
        if (now == null) {
            return STATE;
        }
        if (!in(n, 0, 40) || !in(seed, 1, 999999) || !in(what, 0, 1)) {
            return BAD;
        }
        World w = now.twin();
        java.math.BigInteger x = java.math.BigInteger.valueOf(seed);
        for (int y = 0; y < n; y++) {
            x = x.multiply(java.math.BigInteger.valueOf(16807)).mod(java.math.BigInteger.valueOf(2147483647));
            w.fed.add(x.mod(java.math.BigInteger.valueOf(w.sleepers())).intValue());
            int hot = x.mod(java.math.BigInteger.valueOf(5)).intValue();
            if (x.mod(java.math.BigInteger.valueOf(3)).signum() == 0 && hot < w.sleepers()) {
                w.hot.add(hot);
            }
            w = w.next();
        }
        return what == 0 ? bits(w.kept) : w.memory.stream().mapToInt(m -> Arrays.stream(m).sum()).sum();
    }

    public int image(int k) {
        if (!in(k, 0, 1)) {
            return BAD;
        }
        if (now == null) {
            return STATE;
        }
        images[k] = now.twin();
        return 1;
    }

    public int restore(int k) {
        if (!in(k, 0, 1)) {
            return BAD;
        }
        if (images[k] == null) {
            return STATE;
        }
        now = images[k].twin();
        acts.clear();
        return 1;
    }

    /** The kinds as classes, whose bodies Java itself finds. */
    private interface Sleeper {
        Model of();

        int one();

        default int leave(int body) {
            of().trace.add(body);
            return 0;
        }

        default int size() {
            return leave(10) + Arrays.stream(of().now.memory.get(one())).sum();
        }

        default int mark() {
            return leave(20) + one();
        }
    }

    private abstract static class Told implements Sleeper {
        private final Model of;
        private final int one;

        Told(Model of, int one) {
            this.of = of;
            this.one = one;
        }

        @Override public Model of() {
            return of;
        }

        @Override public int one() {
            return one;
        }
    }

    private static class Dreamer extends Told {
        Dreamer(Model of, int one) {
            super(of, one);
        }

        @Override public int size() {
            return leave(11) + super.size() + mark();
        }

        @Override public int mark() {
            return leave(21) + super.mark() + of().now.memory.get(one())[0];
        }
    }

    private static final class Twofold extends Dreamer {
        Twofold(Model of, int one) {
            super(of, one);
        }

        @Override public int size() {
            return leave(12) - super.size();
        }

        @Override public int mark() {
            return leave(24) + 2 * super.mark();
        }
    }

    private static final class Wrong extends Dreamer {
        Wrong(Model of, int one) {
            super(of, one);
        }

        @Override public int mark() {
            return leave(22) + super.mark() - 1000;
        }
    }

    private static class Wife extends Told {
        Wife(Model of, int one) {
            super(of, one);
        }

        @Override public int size() {
            return leave(13) + super.size() - 100;
        }

        @Override public int mark() {
            return leave(23) + super.mark() - size();
        }
    }

    private static final class Girl extends Wife {
        Girl(Model of, int one) {
            super(of, one);
        }

        @Override public int size() {
            return leave(14) + 2 * super.size();
        }
    }

    private Sleeper made(int one) {
        switch (kind(one)) {
            case 1: return new Dreamer(this, one);
            case 2: return new Twofold(this, one);
            case 3: return new Wrong(this, one);
            case 4: return new Wife(this, one);
            default: return new Girl(this, one);
        }
    }

    public int kind(int one) {
        return isSleeper(one) ? "?dtwsm".indexOf(now.sorts.charAt(one)) : BAD;
    }

    public int as(int one, int kind) {
        if (!isSleeper(one) || !in(kind, 0, 5)) {
            return BAD;
        }
        List<Class<?>> kinds = List.of(Sleeper.class, Dreamer.class, Twofold.class, Wrong.class, Wife.class, Girl.class);
        return kinds.get(kind).isInstance(made(one)) ? fine(one) : finds(3);
    }

    public int ask(int one, int what) {
        if (!isSleeper(one) || !in(what, 0, 1)) {
            return BAD;
        }
        trace = new ArrayList<>();
        return what == 0 ? made(one).size() : made(one).mark();
    }

    public int trace(int i) {
        return in(i, 0, Math.min(16, trace.size()) - 1) ? trace.get(i) : NONE;
    }

    public int count(int what) {
        if (!in(what, 0, 7)) {
            return BAD;
        }
        if (what == 0 || what == 7) {
            return what == 0 ? lanes.size() : tape.length();
        }
        if (now == null) {
            return 0;
        }
        return new int[] {0, now.graves, now.sleepers(), now.year, bits(now.kept), bits(now.fed), acts.size()}[what];
    }

    public int status() {
        return status;
    }
}
