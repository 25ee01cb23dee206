import java.util.ArrayDeque;
import java.util.ArrayList;
import java.util.Arrays;
import java.util.Collections;
import java.util.Deque;
import java.util.HashMap;
import java.util.List;
import java.util.Map;
import java.util.function.IntFunction;

/** A slow second reading of the document, written word by word along it; tests hold OneLine against it. */
final class Model {
    static final int NONE = -1;
    static final int NOTHING = -1000000000;
    private static final int LEADER = 84;

    interface Sum { int of(int[] facts); }

    interface Test { boolean of(int[] facts); }

    /** A note: step null for a rest. */
    record Note(Integer step, int ticks) { }

    private List<Integer> tape = new ArrayList<>();
    private List<Note> notes = new ArrayList<>();
    private List<Test> rules = new ArrayList<>();
    private List<Test> mottos = new ArrayList<>();
    private List<String> names = new ArrayList<>();
    private int measure = 4;
    private int latest = 8;
    private int reach = 4;
    private int kinds = 0;
    private int fault = 0;
    private int place = NONE;
    private List<Integer> octets = new ArrayList<>();

    // ---- texts

    int feed(int a, int b, int c, int d, int e) {
        if (tape.size() + 20 > 1600) {
            return NONE;
        }
        for (int number : new int[] {a, b, c, d, e}) {
            for (int shift = 24; shift >= 0; shift -= 8) {
                tape.add(number >> shift & 0xff);
            }
        }
        return tape.size();
    }

    boolean end(int n) {
        if (n < 0 || n > tape.size()) {
            return false;
        }
        tape = new ArrayList<>(tape.subList(0, n));
        return true;
    }

    int line() {
        ModelReader reader = new ModelReader(takeTape());
        reader.readLine();
        keepFault(reader);
        if (fault != 0) {
            return NONE;
        }
        notes = reader.notes;
        return reader.statements;
    }

    int book() {
        ModelReader reader = new ModelReader(takeTape());
        reader.readBook();
        keepFault(reader);
        if (fault != 0) {
            return NONE;
        }
        rules = reader.rules;
        mottos = reader.mottos;
        names = reader.names;
        measure = reader.measure;
        return reader.statements;
    }

    private List<Integer> takeTape() {
        List<Integer> text = tape;
        tape = new ArrayList<>();
        return text;
    }

    private void keepFault(ModelReader reader) {
        fault = reader.fault;
        place = fault == 0 ? NONE : reader.place;
    }

    int fault(int what) {
        return what == 0 ? fault : what == 1 ? place : NONE;
    }

    int has(int what) {
        return switch (what) {
            case 0 -> notes.size();
            case 1 -> (int) notes.stream().filter(n -> n.step == null).count();
            case 2 -> ticks();
            case 3 -> rules.size();
            case 4 -> mottos.size();
            case 5 -> measure;
            case 6 -> firstStep();
            case 7 -> latest;
            case 8 -> reach;
            case 9 -> kinds;
            default -> NONE;
        };
    }

    private int ticks() {
        return notes.stream().mapToInt(Note::ticks).sum();
    }

    private int firstStep() {
        for (Note note : notes) {
            if (note.step != null) {
                return note.step;
            }
        }
        return NONE;
    }

    int letter(int motto, int k) {
        if (motto < 0 || motto >= mottos.size() || k < 0 || k > 5) {
            return NONE;
        }
        String name = names.get(motto);
        return k < name.length() ? name.charAt(k) - 96 : 0;
    }

    int note(int n, int what) {
        if (n < 0 || n >= notes.size()) {
            return NONE;
        }
        Note note = notes.get(n);
        if (what == 0) {
            return note.step == null ? NONE : note.step;
        }
        if (what == 1) {
            return note.ticks;
        }
        return what == 2 ? notes.subList(0, n).stream().mapToInt(Note::ticks).sum() : NONE;
    }

    int bounds(int delay, int high, int newKinds) {
        if (delay < 0 || delay > 24 || high < 0 || high > 7 || newKinds < 0 || newKinds > 15) {
            return NONE;
        }
        latest = delay;
        reach = high;
        kinds = newKinds;
        return within().size();
    }

    // ---- followers

    record Follower(int delay, int high, int mirror, int back, int pace) {
        int code() {
            return (((delay * 15 + high + 7) * 2 + mirror) * 2 + back) * 3 + pace;
        }
    }

    private static final Map<Integer, Follower> FOLLOWERS = new HashMap<>();

    static {
        for (int delay = 0; delay <= 24; delay++) {
            for (int high = -7; high <= 7; high++) {
                for (int rest = 0; rest < 12; rest++) {
                    Follower f = new Follower(delay, high, rest / 6, rest / 3 % 2, rest % 3);
                    FOLLOWERS.put(f.code(), f);
                }
            }
        }
    }

    private List<Follower> within() {
        List<Follower> found = new ArrayList<>();
        for (int code = 0; code < 4500; code++) {
            Follower f = FOLLOWERS.get(code);
            boolean inside = f.delay <= latest && Math.abs(f.high) <= reach
                && (f.mirror == 0 || (kinds & 1) != 0) && (f.back == 0 || (kinds & 2) != 0)
                && (f.pace != 1 || (kinds & 4) != 0) && (f.pace != 2 || (kinds & 8) != 0);
            if (inside && code != LEADER) {
                found.add(f);
            }
        }
        return found;
    }

    int code(int delay, int high, int mirror, int back, int pace) {
        Follower f = new Follower(delay, high, mirror, back, pace);
        return FOLLOWERS.containsValue(f) ? f.code() : NONE;
    }

    private boolean can(Follower f) {
        return f.pace != 2 || notes.stream().allMatch(n -> n.ticks % 2 == 0);
    }

    private boolean canCode(int code) {
        return FOLLOWERS.containsKey(code) && can(FOLLOWERS.get(code));
    }

    /** The number of the note in a tick of the line. */
    private int numberAt(int tick) {
        int left = tick;
        for (int n = 0; n < notes.size(); n++) {
            if (left < notes.get(n).ticks) {
                return n;
            }
            left -= notes.get(n).ticks;
        }
        return NONE;
    }

    /** The number of the note that a follower has in a tick; NONE ahead and behind. */
    private int number(Follower f, int tick) {
        int u = tick - f.delay;
        if (u < 0) {
            return NONE;
        }
        int i = f.pace == 0 ? u : f.pace == 1 ? u / 2 : 2 * u;
        if (i >= ticks()) {
            return NONE;
        }
        return numberAt(f.back == 1 ? ticks() - 1 - i : i);
    }

    private Integer heard(Follower f, int number) {
        if (number == NONE || notes.get(number).step == null) {
            return null;
        }
        int s = notes.get(number).step;
        return (f.mirror == 1 ? 2 * firstStep() - s : s) + f.high;
    }

    private Integer sung(Follower f, int tick) {
        return heard(f, number(f, tick));
    }

    private int overAt(Follower f) {
        int u = 0;
        while ((f.pace == 0 ? u : f.pace == 1 ? u / 2 : 2 * u) < ticks()) {
            u++;
        }
        return f.delay + u;
    }

    int follower(int code, int what) {
        Follower f = FOLLOWERS.get(code);
        if (f == null) {
            return NOTHING;
        }
        return switch (what) {
            case 0 -> f.delay;
            case 1 -> f.high;
            case 2 -> f.mirror;
            case 3 -> f.back;
            case 4 -> f.pace;
            case 5 -> can(f) ? 1 : 0;
            case 6 -> can(f) ? overAt(f) : NONE;
            default -> NOTHING;
        };
    }

    int sings(int code, int tick) {
        if (!canCode(code) || tick < 0 || tick > 999) {
            return NOTHING;
        }
        Integer step = sung(FOLLOWERS.get(code), tick);
        return step == null ? NOTHING : step;
    }

    private static final int LAST = 220;

    private int brokenBy(Follower a, Follower b, int t, int leftOut) {
        return brokenBy(a, b, t, leftOut, k -> number(a, t + k), k -> number(b, t + k), false);
    }

    /** The rule by which a tick is broken, NONE without; the numbers are told from one tick behind on. */
    private int brokenBy(Follower a, Follower b, int t, int leftOut,
                         IntFunction<Integer> numberA, IntFunction<Integer> numberB, boolean endless) {
        Integer stepA = heard(a, numberA.apply(0));
        Integer stepB = heard(b, numberB.apply(0));
        if (stepA == null || stepB == null) {
            return NONE;
        }
        boolean begins = !numberA.apply(0).equals(numberA.apply(-1)) || !numberB.apply(0).equals(numberB.apply(-1));
        if (!begins) {
            return NONE;
        }
        Integer oldA = heard(a, numberA.apply(-1));
        Integer oldB = heard(b, numberB.apply(-1));
        boolean last = heard(a, numberA.apply(1)) == null || heard(b, numberB.apply(1)) == null;
        int gap = Math.abs(stepA - stepB);
        int[] facts = {
            gap, gap % 7, stepB < stepA ? 1 : 0, t % measure,
            oldA == null ? 0 : stepA - oldA, oldB == null ? 0 : stepB - oldB,
            oldA == null || oldB == null ? 7 : Math.abs(oldA - oldB) % 7, last && !endless ? 1 : 0,
        };
        for (int rule = 0; rule < rules.size(); rule++) {
            if (rule != leftOut && rules.get(rule).of(facts)) {
                return rule;
            }
        }
        return NONE;
    }

    /** All broken ticks: 100 times the tick and the rule. */
    private List<Integer> breaches(Follower one, Follower other, int leftOut) {
        boolean turned = other.code() == LEADER || one.code() != LEADER && other.code() < one.code();
        Follower a = turned ? other : one;
        Follower b = turned ? one : other;
        List<Integer> found = new ArrayList<>();
        for (int t = 0; t < LAST; t++) {
            int rule = brokenBy(a, b, t, leftOut);
            if (rule != NONE) {
                found.add(100 * t + rule);
            }
        }
        return found;
    }

    private boolean noTwo(int first, int second) {
        return first == second || !canCode(first) || !canCode(second);
    }

    int breach(int first, int second, int what) {
        if (noTwo(first, second) || what < 0 || what > 1) {
            return NONE;
        }
        List<Integer> found = breaches(FOLLOWERS.get(first), FOLLOWERS.get(second), NONE);
        if (found.isEmpty()) {
            return NONE;
        }
        return what == 0 ? found.get(0) / 100 : found.get(0) % 100;
    }

    int together(int first, int second, int what) {
        if (noTwo(first, second) || what < 0 || what > 2) {
            return NONE;
        }
        Follower a = FOLLOWERS.get(first);
        Follower b = FOLLOWERS.get(second);
        if (what == 1) {
            return breaches(a, b, NONE).size();
        }
        int both = 0;
        int most = 0;
        for (int t = 0; t < LAST; t++) {
            Integer x = sung(a, t);
            Integer y = sung(b, t);
            if (x != null && y != null) {
                both++;
                most = Math.max(most, Math.abs(x - y));
            }
        }
        return what == 0 ? both : most;
    }

    int broken(int first, int second, int k) {
        if (noTwo(first, second)) {
            return NONE;
        }
        return nth(breaches(FOLLOWERS.get(first), FOLLOWERS.get(second), NONE), k);
    }

    private static int nth(List<Integer> list, int k) {
        return k >= 0 && k < list.size() ? list.get(k) : NONE;
    }

    int span(int code, boolean most) {
        if (!canCode(code)) {
            return NOTHING;
        }
        List<Integer> steps = new ArrayList<>();
        for (int t = 0; t < LAST; t++) {
            Integer step = sung(FOLLOWERS.get(code), t);
            if (step != null) {
                steps.add(step);
            }
        }
        if (steps.isEmpty()) {
            return NOTHING;
        }
        return most ? Collections.max(steps) : Collections.min(steps);
    }

    // ---- ways

    private List<Follower> waysWithout(int rule) {
        List<Follower> found = new ArrayList<>();
        for (Follower f : within()) {
            if (can(f) && breaches(FOLLOWERS.get(LEADER), f, rule).isEmpty()) {
                found.add(f);
            }
        }
        return found;
    }

    private List<Follower> kept;
    private String keptFor = "";
    private final Map<Integer, List<List<Follower>>> keptSets = new HashMap<>();

    /** The ways, kept while line, book and bounds are the same (the tests themselves tell books apart). */
    private List<Follower> twos() {
        String now = notes + " " + rules + " " + measure + " " + latest + " " + reach + " " + kinds;
        if (!now.equals(keptFor)) {
            kept = waysWithout(NONE);
            keptFor = now;
            keptSets.clear();
        }
        return kept;
    }

    private List<List<Follower>> sets(int voices) {
        List<Follower> twos = twos();
        if (keptSets.containsKey(voices)) {
            return keptSets.get(voices);
        }
        List<List<Follower>> found = new ArrayList<>();
        List<Follower> among = voices == 2 ? twos : twos.subList(0, Math.min(40, twos.size()));
        boolean[][] clash = new boolean[among.size()][among.size()];
        for (int i = 0; voices > 2 && i < among.size(); i++) {
            for (int j = i + 1; j < among.size(); j++) {
                clash[i][j] = !breaches(among.get(i), among.get(j), NONE).isEmpty();
            }
        }
        grow(among, clash, voices - 1, new ArrayList<>(), found);
        keptSets.put(voices, found);
        return found;
    }

    private void grow(List<Follower> among, boolean[][] clash, int size, List<Integer> sofar, List<List<Follower>> found) {
        if (sofar.size() == size) {
            found.add(sofar.stream().map(among::get).toList());
            return;
        }
        int from = sofar.isEmpty() ? 0 : sofar.get(sofar.size() - 1) + 1;
        for (int i = from; i < among.size(); i++) {
            int next = i;
            if (sofar.stream().noneMatch(j -> clash[j][next])) {
                List<Integer> longer = new ArrayList<>(sofar);
                longer.add(i);
                grow(among, clash, size, longer, found);
            }
        }
    }

    int ways(int voices) {
        return voices < 2 || voices > 4 ? NONE : sets(voices).size();
    }

    int way(int voices, int k, int j) {
        if (k < 0 || k >= ways(voices) || j < 0 || j >= voices - 1) {
            return NONE;
        }
        return sets(voices).get(k).get(j).code();
    }

    private static boolean alikeIn(Follower a, Follower b, int signs) {
        return ((signs & 1) == 0 || a.delay == b.delay) && ((signs & 2) == 0 || a.high == b.high)
            && ((signs & 4) == 0 || a.mirror == b.mirror) && ((signs & 8) == 0 || a.back == b.back)
            && ((signs & 16) == 0 || a.pace == b.pace);
    }

    int like(int k, int signs) {
        List<Follower> twos = twos();
        if (k < 0 || k >= twos.size() || signs < 0 || signs > 31) {
            return NONE;
        }
        return (int) twos.stream().filter(f -> alikeIn(f, twos.get(k), signs)).count();
    }

    int signs(int k) {
        for (int size = 0; size <= 5; size++) {
            for (int bits = 0; bits < 32; bits++) {
                if (Integer.bitCount(bits) == size && like(k, bits) == 1) {
                    return bits;
                }
            }
        }
        return NONE;
    }

    private static boolean isMeant(Follower f, Test motto) {
        return motto.of(new int[] {f.delay, f.high, f.mirror, f.back, f.pace});
    }

    private List<Integer> meantByAll(int bits) {
        List<Integer> found = new ArrayList<>();
        for (int k = 0; k < twos().size(); k++) {
            boolean all = true;
            for (int m = 0; m < mottos.size(); m++) {
                all &= (bits >> m & 1) == 0 || isMeant(twos().get(k), mottos.get(m));
            }
            if (all) {
                found.add(k);
            }
        }
        return found;
    }

    int means(int motto, int k) {
        if (motto < 0 || motto >= mottos.size()) {
            return NONE;
        }
        List<Integer> found = meantByAll(1 << motto);
        return k == NONE ? found.size() : nth(found, k);
    }

    int mean(int bits) {
        return bits < 0 || bits >= 1 << mottos.size() ? NONE : meantByAll(bits).size();
    }

    int mottos(int k) {
        for (int size = 0; size <= 6; size++) {
            for (int bits = 0; bits < 1 << mottos.size(); bits++) {
                if (Integer.bitCount(bits) == size && meantByAll(bits).equals(List.of(k))) {
                    return bits;
                }
            }
        }
        return NONE;
    }

    int common(int what) {
        if (what < 0 || what > 3 || twos().isEmpty()) {
            return NOTHING;
        }
        int best = 0;
        int most = 0;
        for (int value = -7; value <= 24; value++) {
            int having = 0;
            for (Follower f : twos()) {
                having += (what % 2 == 0 ? f.delay : f.high) == value ? 1 : 0;
            }
            if (having > most) {
                most = having;
                best = value;
            }
        }
        return what < 2 ? best : most;
    }

    int over(int voices, int k) {
        if (k < 0 || k >= ways(voices)) {
            return NONE;
        }
        int last = overAt(FOLLOWERS.get(LEADER));
        for (Follower f : sets(voices).get(k)) {
            last = Math.max(last, overAt(f));
        }
        return last;
    }

    private List<Integer> song(Follower f) {
        List<Integer> steps = new ArrayList<>();
        for (int t = 0; t < LAST; t++) {
            steps.add(sung(f, t));
        }
        return steps;
    }

    int alike(int k) {
        if (k < 0 || k >= twos().size()) {
            return NONE;
        }
        List<Integer> mine = song(twos().get(k));
        for (int i = 0; i < k; i++) {
            if (song(twos().get(i)).equals(mine)) {
                return i;
            }
        }
        return k;
    }

    int unlike() {
        return (int) twos().stream().map(this::song).distinct().count();
    }

    int rule(int rule, boolean without) {
        if (rule < 0 || rule >= rules.size()) {
            return NONE;
        }
        if (without) {
            return waysWithout(rule).size();
        }
        int found = 0;
        for (Follower f : within()) {
            found += breach(LEADER, f.code(), 1) == rule ? 1 : 0;
        }
        return found;
    }

    int meant(int voices, int motto) {
        if (voices < 2 || voices > 4 || motto < 0 || motto >= mottos.size()) {
            return NONE;
        }
        return (int) sets(voices).stream()
            .filter(set -> set.stream().allMatch(f -> isMeant(f, mottos.get(motto)))).count();
    }

    // ---- rounds and lines

    int round(int code) {
        Follower f = FOLLOWERS.get(code);
        int all = ticks();
        if (f == null || f.pace != 0 || code == LEADER || all == 0) {
            return NONE;
        }
        for (int t = f.delay; t < f.delay + all; t++) {
            int tick = t;
            IntFunction<Integer> lead = k -> numberAt(Math.floorMod(tick + k, all));
            IntFunction<Integer> follow = k -> {
                int i = Math.floorMod(tick - f.delay + k, all);
                return numberAt(f.back == 1 ? all - 1 - i : i);
            };
            if (brokenBy(FOLLOWERS.get(LEADER), f, t, NONE, lead, follow, true) != NONE) {
                return t;
            }
        }
        return NONE;
    }

    private boolean follows(int code) {
        return FOLLOWERS.containsKey(code) && code != LEADER;
    }

    private static List<List<Note>> lines(int n, int range) {
        if (n == 0) {
            return List.of(List.of());
        }
        List<List<Note>> found = new ArrayList<>();
        for (List<Note> shorter : lines(n - 1, range)) {
            for (int step = 0; step <= range; step++) {
                if (shorter.isEmpty() || shorter.get(n - 2).step != step) {
                    List<Note> longer = new ArrayList<>(shorter);
                    longer.add(new Note(step, 2));
                    found.add(longer);
                }
            }
        }
        return found;
    }

    private List<Note> made(int code, int n, int range) {
        List<Note> own = notes;
        for (List<Note> candidate : lines(n, range)) {
            notes = candidate;
            if (canCode(code) && breach(LEADER, code, 0) == NONE) {
                notes = own;
                return candidate;
            }
        }
        notes = own;
        return null;
    }

    int make(int code, int n, int range) {
        if (!follows(code) || n < 1 || n > 6 || range < 0 || range > 4) {
            return NONE;
        }
        List<Note> found = made(code, n, range);
        if (found == null) {
            return 0;
        }
        notes = new ArrayList<>(found);
        return 1;
    }

    int shortest(int code, int range) {
        if (!follows(code) || range < 0 || range > 4) {
            return NONE;
        }
        for (int n = 2; n <= 6; n++) {
            if (made(code, n, range) != null) {
                return n;
            }
        }
        return NONE;
    }

    int richest(int n, int range, int what) {
        if (n < 1 || n > 4 || range < 0 || range > 2 || what < 0 || what > 1) {
            return NONE;
        }
        List<Note> own = notes;
        List<Note> best = null;
        int most = NONE;
        for (List<Note> candidate : lines(n, range)) {
            notes = candidate;
            int found = waysWithout(NONE).size();
            if (found > most) {
                most = found;
                best = candidate;
            }
        }
        notes = own;
        if (best == null || what == 0) {
            return most;
        }
        notes = new ArrayList<>(best);
        return n;
    }

    int wrong(int code, int k) {
        if (!follows(code) || !canCode(code) || breach(LEADER, code, 0) == NONE) {
            return NONE;
        }
        List<Note> own = notes;
        List<Integer> found = new ArrayList<>();
        for (int n = 0; n < own.size(); n++) {
            for (int step = 0; step <= 28; step++) {
                Note note = own.get(n);
                if (note.step == null || note.step == step) {
                    continue;
                }
                notes = new ArrayList<>(own);
                notes.set(n, new Note(step, note.ticks));
                if (breach(LEADER, code, 0) == NONE) {
                    found.add(100 * n + step);
                }
            }
        }
        notes = own;
        return k == NONE ? found.size() : nth(found, k);
    }

    int change(int n, int step) {
        if (n < 0 || n >= notes.size() || step < 0 || step > 28) {
            return NONE;
        }
        Note had = notes.get(n);
        notes = new ArrayList<>(notes);
        notes.set(n, new Note(step, had.ticks));
        return had.step == null ? -2 : had.step;
    }

    int draw(int n, int range, int seed) {
        if (n < 1 || n > 24 || range < 0 || range > 28) {
            return NONE;
        }
        long x = seed;
        notes = new ArrayList<>();
        for (int i = 0; i < n; i++) {
            x = Math.floorMod(1103515245L * x + 12345, 1L << 31);
            int step = (int) (x / 64 % (range + 1));
            x = Math.floorMod(1103515245L * x + 12345, 1L << 31);
            notes.add(new Note(step, new int[] {1, 2, 2, 4}[(int) (x / 64 % 4)]));
        }
        return ticks();
    }

    // ---- images

    private List<Integer> imageOf(List<Note> of) {
        List<Integer> bytes = new ArrayList<>();
        bytes.add(of.size());
        for (Note note : of) {
            bytes.add(note.step == null ? 255 : note.step);
            bytes.add(note.ticks);
        }
        int c = 23;
        for (int b : bytes) {
            c = (7 * c + b) % 251;
        }
        bytes.add(c);
        return bytes;
    }

    int image() {
        octets = imageOf(notes);
        return octets.size();
    }

    int octet(int k) {
        return nth(octets, k);
    }

    boolean on() {
        List<Integer> bytes = takeTape();
        List<Note> told = new ArrayList<>();
        for (int i = 1; i + 1 < bytes.size() - 1; i += 2) {
            told.add(new Note(bytes.get(i) == 255 ? null : bytes.get(i), bytes.get(i + 1)));
        }
        boolean fits = told.size() <= 24 && told.stream().mapToInt(Note::ticks).sum() <= 96
            && told.stream().allMatch(n -> n.ticks >= 1 && n.ticks <= 16 && (n.step == null || n.step <= 28))
            && imageOf(told).equals(bytes);
        if (fits) {
            notes = told;
        }
        return fits;
    }

    /** Both languages by a pushdown of what is still due. */
    static final class ModelReader {
        private static final List<String> OWN = Arrays.asList(("step for rest measure bad motto when or and not all"
            + " gap sort under beat rise climb was last delay high mirror back pace min max").split(" "));
        private static final List<String> OF_RULE = OWN.subList(11, 19);
        private static final List<String> OF_MOTTO = OWN.subList(19, 24);

        private final String text;
        private int at;
        private int tokenEnd = -1;
        private final Deque<Object> due = new ArrayDeque<>();
        private int open;
        private final Deque<Sum> sums = new ArrayDeque<>();
        private final Deque<Test> tests = new ArrayDeque<>();
        private List<String> facts = OF_RULE;
        private int step;
        private int total;

        int fault;
        int place;
        int statements;
        int measure = 4;
        List<Note> notes = new ArrayList<>();
        List<Test> rules = new ArrayList<>();
        List<Test> mottos = new ArrayList<>();
        List<String> names = new ArrayList<>();

        /** A number due, from least to most (as they are by then), and what is done with it. */
        record Number(IntFunction<Integer> most, int least, java.util.function.IntConsumer then) { }

        ModelReader(List<Integer> bytes) {
            StringBuilder built = new StringBuilder();
            bytes.forEach(b -> built.append((char) (int) b));
            text = built.toString();
        }

        void readLine() {
            read(24, "NOTE");
        }

        void readBook() {
            read(60, "RULE");
        }

        private void read(int most, String kind) {
            while (fault == 0) {
                blanks();
                if (at == text.length()) {
                    return;
                }
                if (statements == most) {
                    fail(5, at);
                    return;
                }
                push(kind, "';");
                while (fault == 0 && !due.isEmpty()) {
                    step(due.pop());
                }
                statements++;
            }
        }

        private void blanks() {
            while (at < text.length() && " \n".indexOf(text.charAt(at)) >= 0) {
                at++;
            }
        }

        private void fail(int kind, int where) {
            fault = kind;
            place = where;
        }

        /** The token that stands next: a whole word, a whole number, one sign; empty at the end. */
        private String next() {
            blanks();
            int to = at;
            if (at == text.length()) {
                return "";
            }
            if (Character.toString(text.charAt(at)).matches("[a-z]")) {
                while (to < text.length() && text.substring(to, to + 1).matches("[a-z]")) {
                    to++;
                }
            } else if (text.substring(at, at + 1).matches("[0-9]")) {
                while (to < text.length() && text.substring(to, to + 1).matches("[0-9]")) {
                    to++;
                }
            } else {
                to++;
            }
            String token = text.substring(at, to);
            boolean glued = at == tokenEnd && token.matches("[a-z0-9]+");
            return glued ? "\0" : token;
        }

        private void take(String token) {
            at += token.length();
            if (token.matches("[a-z0-9]+")) {
                tokenEnd = at;
            }
        }

        private void push(Object... parts) {
            for (int i = parts.length - 1; i >= 0; i--) {
                due.push(parts[i]);
            }
        }

        private void step(Object what) {
            if (what instanceof Runnable action) {
                action.run();
            } else if (what instanceof Number number) {
                number(number);
            } else {
                String symbol = (String) what;
                if (symbol.startsWith("'")) {
                    if (next().equals(symbol.substring(1))) {
                        take(next());
                    } else {
                        fail(1, at);
                    }
                } else {
                    expand(symbol, next());
                }
            }
        }

        private void number(Number number) {
            String token = next();
            if (!token.matches("[0-9]+")) {
                fail(1, at);
            } else if (token.length() > 4) {
                fail(1, at + 4);
            } else {
                int value = Integer.parseInt(token);
                if (value < number.least || value > number.most.apply(0)) {
                    fail(2, at);
                } else {
                    take(token);
                    number.then.accept(value);
                }
            }
        }

        private void expand(String symbol, String token) {
            switch (symbol) {
                case "NOTE" -> note(token);
                case "RULE" -> statement(token);
                case "NAME" -> name(token);
                case "TEST" -> push("BOTH", "ORS");
                case "ORS" -> {
                    if (token.equals("or")) {
                        push("'or", "BOTH", (Runnable) () -> join(false), "ORS");
                    }
                }
                case "BOTH" -> push("FACT", "ANDS");
                case "ANDS" -> {
                    if (token.equals("and")) {
                        push("'and", "FACT", (Runnable) () -> join(true), "ANDS");
                    }
                }
                case "FACT" -> fact(token);
                case "SIGN" -> sign(token);
                case "SUM" -> push("PRODUCT", "SUMS");
                case "SUMS" -> chain(token, "+-", "PRODUCT", "SUMS");
                case "PRODUCT" -> push("PART", "PARTS");
                case "PARTS" -> chain(token, "*/", "PART", "PARTS");
                case "PART" -> part(token);
                case "LIST" -> list(token);
                default -> throw new IllegalStateException(symbol);
            }
        }

        private void note(String token) {
            Runnable toStep = () -> step = -1;
            Number ticks = new Number(x -> Math.min(16, 96 - total), 1, n -> {
                total += n;
                notes.add(new Note(step < 0 ? null : step, n));
            });
            if (token.equals("step")) {
                push("'step", new Number(x -> 28, 0, n -> step = n), "'for", ticks);
            } else if (token.equals("rest")) {
                push("'rest", toStep, "'for", ticks);
            } else {
                fail(1, at);
            }
        }

        private void statement(String token) {
            if (token.equals("measure")) {
                push("'measure", new Number(x -> 12, 2, n -> measure = n));
            } else if (token.equals("bad")) {
                if (rules.size() == 12) {
                    fail(5, at);
                    return;
                }
                facts = OF_RULE;
                push("'bad", "'when", "TEST", (Runnable) () -> rules.add(tests.pop()));
            } else if (token.equals("motto")) {
                if (mottos.size() == 6) {
                    fail(5, at);
                    return;
                }
                facts = OF_MOTTO;
                push("'motto", "NAME", "'when", "TEST", (Runnable) () -> mottos.add(tests.pop()));
            } else {
                fail(1, at);
            }
        }

        private void name(String token) {
            if (!token.matches("[a-z]+") || OWN.contains(token)) {
                fail(1, at);
            } else if (token.length() > 6) {
                fail(1, at + 6);
            } else if (names.contains(token)) {
                fail(3, at);
            } else {
                names.add(token);
                take(token);
            }
        }

        private Runnable opening() {
            return () -> {
                next();
                open++;
                if (open == 7) {
                    fail(4, at);
                }
            };
        }

        private Runnable closing() {
            return () -> open--;
        }

        private void fact(String token) {
            switch (token) {
                case "not" -> push(opening(), "'not", "FACT", (Runnable) () -> {
                    Test inner = tests.pop();
                    tests.push(f -> !inner.of(f));
                }, closing());
                case "[" -> push(opening(), "'[", "TEST", "']", closing());
                case "all" -> push("'all", (Runnable) () -> tests.push(f -> true));
                default -> push("SUM", "SIGN");
            }
        }

        private void sign(String token) {
            if (!List.of("<", ">", "=").contains(token)) {
                fail(1, at);
                return;
            }
            push("'" + token, "SUM", (Runnable) () -> {
                Sum b = sums.pop();
                Sum a = sums.pop();
                tests.push(f -> {
                    int order = Integer.compare(a.of(f), b.of(f));
                    return order == List.of("<", "=", ">").indexOf(token) - 1;
                });
            });
        }

        private void join(boolean and) {
            Test b = tests.pop();
            Test a = tests.pop();
            tests.push(and ? f -> a.of(f) && b.of(f) : f -> a.of(f) || b.of(f));
        }

        private void chain(String token, String signs, String part, String again) {
            if (token.length() != 1 || !signs.contains(token)) {
                return;
            }
            push("'" + token, part, (Runnable) () -> {
                Sum b = sums.pop();
                Sum a = sums.pop();
                sums.push(f -> reckon(token, a.of(f), b.of(f)));
            }, again);
        }

        private static int reckon(String sign, long a, long b) {
            if (sign.equals("/")) {
                return b == 0 ? 0 : (int) Math.floor((double) a / b);
            }
            long value = sign.equals("+") ? a + b : sign.equals("-") ? a - b : a * b;
            return (int) Math.max(-1000000, Math.min(1000000, value));
        }

        private void part(String token) {
            if (token.matches("[0-9]+")) {
                push(new Number(x -> 9999, 0, n -> sums.push(f -> n)));
            } else if (token.equals("(")) {
                push(opening(), "'(", "SUM", "')", closing());
            } else if (token.equals("min") || token.equals("max")) {
                Runnable combine = () -> {
                    Sum b = sums.pop();
                    Sum a = sums.pop();
                    sums.push(f -> token.equals("min") ? Math.min(a.of(f), b.of(f)) : Math.max(a.of(f), b.of(f)));
                };
                push("'" + token, "LIST", "SUM", "',", "SUM", "')", closing(), combine);
            } else if (facts.contains(token)) {
                int fact = facts.indexOf(token);
                push("'" + token, (Runnable) () -> sums.push(f -> f[fact]));
            } else {
                fail(1, at);
            }
        }

        /** The bracket behind min and max: first it must be one, then it may be too deep. */
        private void list(String token) {
            if (token.equals("(")) {
                push(opening(), "'(");
            } else {
                fail(1, at);
            }
        }
    }
}
