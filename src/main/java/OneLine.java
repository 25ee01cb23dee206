import java.util.Arrays;

/** One line of notes and all the ways to sing it against itself. DOC.md tells what each call answers. */
public final class OneLine {
    public static final int NONE = -1;
    public static final int NOTHING = -1000000000;

    private static final int MOST_NOTES = 24;
    private static final int MOST_TICKS = 96;
    private static final int LONGEST = 16;
    private static final int TOP_STEP = 28;
    private static final int REST = -1;
    private static final int WAS_REST = -2;

    private static final int MOST_RULES = 12;
    private static final int MOST_MOTTOS = 6;
    private static final int NAME_LETTERS = 6;
    private static final int USUAL_MEASURE = 4;

    private static final int CODES = 4500;
    private static final int LEADER = 84;
    private static final int LATEST = 24;
    private static final int HIGHEST = 7;
    private static final int HIGHS = 15;
    /** Mirror, back and pace together. */
    private static final int KINDS = 12;
    private static final int DOUBLE_PACE = 2;
    private static final int LAST_TICK = 999;

    private static final int MOST_MADE = 6;
    private static final int WIDEST_MADE = 4;
    private static final int MOST_RICH = 4;
    private static final int WIDEST_RICH = 2;
    /** More than there are lines of six notes on five steps. */
    private static final int MADE_LINES = 20000;

    private static final int IMAGE_REST = 255;
    private static final int IMAGE_START = 23;
    private static final int IMAGE_MODULUS = 251;

    private final Tape tape = new Tape();
    private Line line = new Line();
    private Line spare = new Line();
    private final Line chosen = new Line();
    private Book book = new Book();
    private Book draft = new Book();
    private final Reader reader = new Reader(tape, draft);
    private final Judge judge = new Judge(book);
    private final Duet duet = new Duet();
    private final Voice solo = new Voice();
    private final Ways ways = new Ways();
    private final Sets sets = new Sets();
    private final Likeness likeness = new Likeness();
    private final int[] octets = new int[2 * MOST_NOTES + 2];
    private int octetCount;
    private final int[] wrongs = new int[MOST_NOTES * TOP_STEP];
    private int wrongCount;
    /** The follower whose wrong notes are held, NONE when they must be sought anew. */
    private int wrongFor = NONE;

    public OneLine() {
    }

    // ---- texts

    public int feed(int a, int b, int c, int d, int e) {
        if (!tape.hasRoom(20)) {
            return NONE;
        }
        tape.put(a);
        tape.put(b);
        tape.put(c);
        tape.put(d);
        tape.put(e);
        return tape.length;
    }

    public boolean end(int n) {
        return tape.cut(n);
    }

    public int line() {
        int statements = reader.readLine(spare);
        tape.cut(0);
        if (statements == NONE) {
            return NONE;
        }
        takeSpare();
        return statements;
    }

    public int book() {
        int statements = reader.readBook(draft);
        tape.cut(0);
        if (statements == NONE) {
            return NONE;
        }
        Book old = book;
        book = draft;
        draft = old;
        judge.follow(book);
        forget();
        return statements;
    }

    public int fault(int what) {
        if (what == 0) {
            return reader.fault;
        }
        return what == 1 ? reader.place : NONE;
    }

    public int has(int what) {
        switch (what) {
            case 0: return line.count;
            case 1: return line.rests();
            case 2: return line.total;
            case 3: return book.rules;
            case 4: return book.mottos;
            case 5: return book.measure;
            case 6: return line.opening;
            case 7: return ways.latest;
            case 8: return ways.reach;
            case 9: return ways.kinds;
            default: return NONE;
        }
    }

    public int letter(int motto, int k) {
        return book.letterOf(motto, k);
    }

    public int note(int note, int what) {
        switch (what) {
            case 0: return line.stepOf(note);
            case 1: return line.lengthOf(note);
            case 2: return line.startOf(note);
            default: return NONE;
        }
    }

    public int bounds(int delay, int high, int kinds) {
        if (delay < 0 || delay > LATEST || high < 0 || high > HIGHEST || kinds < 0 || kinds > 15) {
            return NONE;
        }
        ways.latest = delay;
        ways.reach = high;
        ways.kinds = kinds;
        forget();
        int allowed = 0;
        for (int kind = 0; kind < KINDS; kind++) {
            allowed += ways.allows(kind) ? 1 : 0;
        }
        return (delay + 1) * (2 * high + 1) * allowed - 1;
    }

    // ---- followers

    public int code(int delay, int high, int mirror, int back, int pace) {
        if (delay < 0 || delay > LATEST || high < -HIGHEST || high > HIGHEST) {
            return NONE;
        }
        if (mirror < 0 || mirror > 1 || back < 0 || back > 1 || pace < 0 || pace > DOUBLE_PACE) {
            return NONE;
        }
        return codeOf(delay, high, (mirror * 2 + back) * 3 + pace);
    }

    public int follower(int code, int what) {
        if (!isCode(code)) {
            return NOTHING;
        }
        solo.take(code);
        switch (what) {
            case 0: return solo.delay;
            case 1: return solo.high;
            case 2: return solo.mirror;
            case 3: return solo.back;
            case 4: return solo.pace;
            case 5: return canBe(line, code) ? 1 : 0;
            case 6: return canBe(line, code) ? solo.stop(line) : NONE;
            default: return NOTHING;
        }
    }

    public int sings(int code, int tick) {
        if (!isCode(code) || !canBe(line, code) || tick < 0 || tick > LAST_TICK) {
            return NOTHING;
        }
        solo.take(code);
        return solo.tone(line, solo.number(line, tick));
    }

    public int breach(int first, int second, int what) {
        if (what < 0 || what > 1 || !hearTwo(first, second)) {
            return NONE;
        }
        int moment = judge.nextBroken(duet, 0);
        if (moment == NONE) {
            return NONE;
        }
        return what == 0 ? duet.tickOf(moment) : judge.ruleAt(duet, moment);
    }

    public int together(int first, int second, int what) {
        if (what < 0 || what > 2 || !hearTwo(first, second)) {
            return NONE;
        }
        if (what == 0) {
            return duet.both;
        }
        return what == 1 ? judge.countBroken(duet) : duet.widest;
    }

    public int broken(int first, int second, int k) {
        if (k < 0 || k >= Duet.MOST || !hearTwo(first, second)) {
            return NONE;
        }
        int moment = judge.nextBroken(duet, 0);
        for (int n = 0; n < k && moment != NONE; n++) {
            moment = judge.nextBroken(duet, moment + 1);
        }
        return moment == NONE ? NONE : 100 * duet.tickOf(moment) + judge.ruleAt(duet, moment);
    }

    public int span(int code, boolean most) {
        if (!isCode(code) || !canBe(line, code)) {
            return NOTHING;
        }
        solo.take(code);
        int found = NOTHING;
        for (int n = 0; n < line.count; n++) {
            int tone = solo.tone(line, n);
            if (tone != NOTHING && (found == NOTHING || (most ? tone > found : tone < found))) {
                found = tone;
            }
        }
        return found;
    }

    // ---- ways

    public int ways(int voices) {
        prepare(voices);
        return howMany(voices);
    }

    public int way(int voices, int k, int j) {
        prepare(voices);
        return ways.codeOf(member(voices, k, j));
    }

    public int signs(int k) {
        prepare(2);
        return ways.fewestSigns(k);
    }

    public int like(int k, int signs) {
        prepare(2);
        return ways.countLike(k, signs);
    }

    public int means(int motto, int k) {
        if (motto < 0 || motto >= book.mottos || k < NONE) {
            return NONE;
        }
        prepare(2);
        return k == NONE ? ways.countMeant(1 << motto) : ways.nthMeant(1 << motto, k);
    }

    public int mean(int mottos) {
        if (mottos < 0 || mottos >= 1 << book.mottos) {
            return NONE;
        }
        prepare(2);
        return ways.countMeant(mottos);
    }

    public int mottos(int k) {
        prepare(2);
        return ways.fewestMottos(k);
    }

    public int common(int what) {
        prepare(2);
        if (what < 0 || what > 3 || ways.count == 0) {
            return NOTHING;
        }
        return ways.commonest(what % 2 == 0, what >= 2);
    }

    public int over(int voices, int k) {
        prepare(voices);
        if (k < 0 || k >= howMany(voices)) {
            return NONE;
        }
        int latest = line.total;
        for (int j = 0; j < voices - 1; j++) {
            solo.take(ways.codeOf(member(voices, k, j)));
            latest = Math.max(latest, solo.stop(line));
        }
        return latest;
    }

    public int alike(int k) {
        prepare(2);
        prepareLikeness();
        return likeness.firstOf(k);
    }

    public int unlike() {
        prepare(2);
        prepareLikeness();
        return likeness.unlikes;
    }

    public int rule(int rule, boolean without) {
        if (rule < 0 || rule >= book.rules) {
            return NONE;
        }
        prepare(2);
        return without ? ways.countWithout(rule) : ways.countBroken(rule);
    }

    public int meant(int voices, int motto) {
        if (voices < 2 || voices > 4 || motto < 0 || motto >= book.mottos) {
            return NONE;
        }
        prepare(voices);
        int found = 0;
        for (int k = 0; k < howMany(voices); k++) {
            boolean all = true;
            for (int j = 0; j < voices - 1 && all; j++) {
                all = ways.isMeant(member(voices, k, j), 1 << motto);
            }
            found += all ? 1 : 0;
        }
        return found;
    }

    // ---- rounds and lines

    public int round(int code) {
        if (!follows(code) || code % 3 != 0 || line.total == 0) {
            return NONE;
        }
        duet.hearRound(line, book.measure, code);
        int moment = judge.nextBroken(duet, 0);
        return moment == NONE ? NONE : duet.tickOf(moment);
    }

    public int make(int code, int n, int range) {
        if (!follows(code) || n < 1 || n > MOST_MADE || range < 0 || range > WIDEST_MADE) {
            return NONE;
        }
        if (!madeInSpare(code, n, range)) {
            return 0;
        }
        takeSpare();
        return 1;
    }

    public int shortest(int code, int range) {
        if (!follows(code) || range < 0 || range > WIDEST_MADE) {
            return NONE;
        }
        for (int n = 2; n <= MOST_MADE; n++) {
            if (madeInSpare(code, n, range)) {
                return n;
            }
        }
        return NONE;
    }

    public int richest(int n, int range, int what) {
        if (n < 1 || n > MOST_RICH || range < 0 || range > WIDEST_RICH || what < 0 || what > 1) {
            return NONE;
        }
        int most = NONE;
        boolean more = spare.beginMade(n, range);
        for (int tries = 0; more && tries < MADE_LINES; tries++) {
            int found = ways.survey(spare, book, judge, duet);
            if (found > most) {
                most = found;
                chosen.copyFrom(spare);
            }
            more = spare.advanceMade(range);
        }
        forget();
        if (most == NONE || what == 0) {
            return most;
        }
        spare.copyFrom(chosen);
        takeSpare();
        return n;
    }

    public int wrong(int code, int k) {
        if (k < NONE || !seekWrongs(code)) {
            return NONE;
        }
        if (k == NONE) {
            return wrongCount;
        }
        return k < wrongCount && k < wrongs.length ? wrongs[k] : NONE;
    }

    public int change(int note, int step) {
        if (note < 0 || note >= line.count || step < 0 || step > TOP_STEP) {
            return NONE;
        }
        int had = line.stepOf(note);
        line.setStep(note, step);
        forget();
        return had == REST ? WAS_REST : had;
    }

    public int draw(int n, int range, int seed) {
        if (n < 1 || n > MOST_NOTES || range < 0 || range > TOP_STEP) {
            return NONE;
        }
        line.clear();
        int x = seed;
        for (int i = 0; i < n; i++) {
            x = nextSeed(x);
            int step = x / 64 % (range + 1);
            x = nextSeed(x);
            int drawn = x / 64 % 4;
            line.add(step, drawn == 0 ? 1 : drawn == 3 ? 4 : 2);
        }
        forget();
        return line.total;
    }

    // ---- images

    public int image() {
        octets[0] = line.count;
        octetCount = 1;
        for (int n = 0; n < line.count && octetCount + 2 < octets.length; n++) {
            int step = line.stepOf(n);
            octets[octetCount] = step == REST ? IMAGE_REST : step;
            octets[octetCount + 1] = line.lengthOf(n);
            octetCount += 2;
        }
        int check = IMAGE_START;
        for (int i = 0; i < octetCount; i++) {
            check = nextCheck(check, octets[i]);
        }
        octets[octetCount] = check;
        octetCount++;
        return octetCount;
    }

    public int octet(int k) {
        return k >= 0 && k < octetCount && k < octets.length ? octets[k] : NONE;
    }

    public boolean on() {
        boolean read = imageInSpare();
        tape.cut(0);
        if (read) {
            takeSpare();
        }
        return read;
    }

    // ---- what the calls share

    private static boolean isCode(int code) {
        return code >= 0 && code < CODES;
    }

    /** Whether it is a follower that can stand beside the leader. */
    private static boolean follows(int code) {
        return isCode(code) && code != LEADER;
    }

    private static int codeOf(int delay, int high, int kind) {
        return (delay * HIGHS + high + HIGHEST) * KINDS + kind;
    }

    private static boolean canBe(Line line, int code) {
        return code % 3 != DOUBLE_PACE || !line.odd;
    }

    private static int lowestBit(int bits) {
        return bits & -bits;
    }

    private static int nextSeed(int x) {
        return (1103515245 * x + 12345) & 0x7fffffff;
    }

    private static int nextCheck(int check, int octet) {
        return (7 * check + octet) % IMAGE_MODULUS;
    }

    private void takeSpare() {
        Line old = line;
        line = spare;
        spare = old;
        forget();
    }

    /** What was reckoned from the line, the book and the bounds holds no longer. */
    private void forget() {
        ways.ready = false;
        sets.ready = false;
        likeness.ready = false;
        wrongFor = NONE;
    }

    /** Seeks the ways of so many voices, if they are not known. */
    private void prepare(int voices) {
        if (!ways.ready) {
            ways.survey(line, book, judge, duet);
            ways.weigh(book);
            ways.ready = true;
        }
        if ((voices == 3 || voices == 4) && !sets.ready) {
            sets.build(line, book, ways, judge, duet);
            sets.ready = true;
        }
    }

    private void prepareLikeness() {
        if (!likeness.ready) {
            likeness.build(line, ways);
            likeness.ready = true;
        }
    }

    private int howMany(int voices) {
        switch (voices) {
            case 2: return ways.count;
            case 3: return sets.trios;
            case 4: return sets.quartets;
            default: return NONE;
        }
    }

    /** The j-th follower of the k-th way, by its number among the ways of two voices. */
    private int member(int voices, int k, int j) {
        if (k < 0 || k >= howMany(voices) || j < 0 || j >= voices - 1) {
            return NONE;
        }
        return voices == 2 ? k : sets.memberOf(voices, k, j);
    }

    private boolean hearTwo(int first, int second) {
        if (!isCode(first) || !isCode(second) || first == second) {
            return false;
        }
        if (!canBe(line, first) || !canBe(line, second)) {
            return false;
        }
        duet.hear(line, book.measure, first, second);
        return true;
    }

    /** Whether a follower can be and has no breach with the leader. */
    private boolean agrees(Line sung, int code) {
        if (!canBe(sung, code)) {
            return false;
        }
        duet.hear(sung, book.measure, LEADER, code);
        return judge.nextBroken(duet, 0) == NONE;
    }

    private boolean madeInSpare(int code, int n, int range) {
        boolean more = spare.beginMade(n, range);
        for (int tries = 0; more && tries < MADE_LINES; tries++) {
            if (agrees(spare, code)) {
                return true;
            }
            more = spare.advanceMade(range);
        }
        return false;
    }

    /** Seeks the wrong notes for a follower; false if there is nothing to mend. */
    private boolean seekWrongs(int code) {
        if (!follows(code) || !canBe(line, code)) {
            return false;
        }
        if (code == wrongFor) {
            return true;
        }
        if (agrees(line, code)) {
            return false;
        }
        wrongCount = 0;
        spare.copyFrom(line);
        for (int n = 0; n < line.count; n++) {
            int own = line.stepOf(n);
            for (int step = 0; step <= TOP_STEP && own != REST; step++) {
                spare.setStep(n, step);
                if (step != own && agrees(spare, code)) {
                    keepWrong(100 * n + step);
                }
            }
            spare.setStep(n, own);
        }
        wrongFor = code;
        return true;
    }

    private void keepWrong(int found) {
        if (wrongCount < wrongs.length) {
            wrongs[wrongCount] = found;
            wrongCount++;
        }
    }

    private boolean imageInSpare() {
        int notes = tape.at(0);
        if (notes < 0 || notes > MOST_NOTES || tape.length != 2 * notes + 2) {
            return false;
        }
        int check = IMAGE_START;
        for (int i = 0; i <= 2 * notes; i++) {
            check = nextCheck(check, tape.at(i));
        }
        if (tape.at(2 * notes + 1) != check) {
            return false;
        }
        spare.clear();
        for (int n = 0; n < notes; n++) {
            int step = tape.at(2 * n + 1);
            if (!spare.add(step == IMAGE_REST ? REST : step, tape.at(2 * n + 2))) {
                return false;
            }
        }
        return true;
    }

    /** The bytes that have come and were not read yet. */
    private static final class Tape {
        static final int MOST = 1600;
        private final int[] bytes = new int[MOST];
        private int length;

        boolean hasRoom(int more) {
            return length + more <= MOST;
        }

        void put(int number) {
            if (!hasRoom(4)) {
                return;
            }
            for (int i = 0; i < 4; i++) {
                bytes[length] = number >>> (24 - 8 * i) & 255;
                length++;
            }
        }

        boolean cut(int n) {
            if (n < 0 || n > length) {
                return false;
            }
            length = n;
            return true;
        }

        /** The byte there, NONE where there is none. */
        int at(int place) {
            return place >= 0 && place < length ? bytes[place] : NONE;
        }
    }

    /** Notes and rests, one behind the other. */
    private static final class Line {
        private final int[] steps = new int[MOST_NOTES];
        private final int[] lengths = new int[MOST_NOTES];
        private final int[] starts = new int[MOST_NOTES];
        /** Of each tick the number of the note that it belongs to. */
        private final int[] owners = new int[MOST_TICKS];
        private int count;
        private int total;
        private int opening = NONE;
        private boolean odd;

        void clear() {
            count = 0;
            total = 0;
            opening = NONE;
            odd = false;
        }

        /** Puts a note (a rest) behind the others; false, doing nothing, if it can't be. */
        boolean add(int step, int length) {
            if (step < REST || step > TOP_STEP || length < 1 || length > LONGEST) {
                return false;
            }
            if (count >= MOST_NOTES || total + length > MOST_TICKS) {
                return false;
            }
            steps[count] = step;
            lengths[count] = length;
            starts[count] = total;
            for (int i = total; i < total + length; i++) {
                owners[i] = count;
            }
            if (opening == NONE) {
                opening = step;
            }
            odd = odd || length % 2 == 1;
            total += length;
            count++;
            return true;
        }

        void copyFrom(Line other) {
            clear();
            for (int n = 0; n < other.count; n++) {
                add(other.stepOf(n), other.lengthOf(n));
            }
        }

        private boolean holds(int n) {
            return n >= 0 && n < count && n < MOST_NOTES;
        }

        /** Its step; NONE, which is REST too, when there is none. */
        int stepOf(int n) {
            return holds(n) ? steps[n] : NONE;
        }

        int lengthOf(int n) {
            return holds(n) ? lengths[n] : NONE;
        }

        int startOf(int n) {
            return holds(n) ? starts[n] : NONE;
        }

        int ownerOf(int tick) {
            return tick >= 0 && tick < total && tick < MOST_TICKS ? owners[tick] : NONE;
        }

        int rests() {
            int found = 0;
            for (int n = 0; n < count; n++) {
                found += stepOf(n) == REST ? 1 : 0;
            }
            return found;
        }

        void setStep(int n, int step) {
            if (!holds(n)) {
                return;
            }
            steps[n] = step;
            opening = NONE;
            for (int i = 0; i < count && opening == NONE; i++) {
                opening = stepOf(i);
            }
        }

        /** The first line of n notes of two ticks on the steps 0 .. range; false if there is none. */
        boolean beginMade(int n, int range) {
            clear();
            for (int i = 0; i < n; i++) {
                add(0, 2);
            }
            return fillMade(0, range);
        }

        /** The line behind this one, by steps in their order; false if it is the last one. */
        boolean advanceMade(int range) {
            for (int n = count - 1; n >= 0; n--) {
                int step = stepOf(n) + 1;
                if (n > 0 && step == stepOf(n - 1)) {
                    step++;
                }
                if (step <= range) {
                    setStep(n, step);
                    return fillMade(n + 1, range);
                }
            }
            return false;
        }

        private boolean fillMade(int from, int range) {
            for (int n = from; n < count; n++) {
                int step = n > 0 && stepOf(n - 1) == 0 ? 1 : 0;
                if (step > range) {
                    return false;
                }
                setStep(n, step);
            }
            return true;
        }
    }

    /** The measure, the rules and the mottos; their tests as numbers and signs, each sign behind what it joins. */
    private static final class Book {
        /** Below this a word of the tests is a number. */
        static final int FACT = 10000;
        static final int NOT = 10020;
        static final int OR = 10021;
        static final int AND = 10022;
        static final int LESS = 10023;
        static final int MORE = 10024;
        static final int SAME = 10025;
        static final int PLUS = 10026;
        static final int MINUS = 10027;
        static final int TIMES = 10028;
        static final int BY = 10029;
        static final int LEAST = 10030;
        static final int MOST = 10031;
        /** The number of the first motto's test. */
        static final int FIRST_MOTTO = MOST_RULES;
        private static final int TESTS = MOST_RULES + MOST_MOTTOS;
        private static final int LIMIT = 1000000;

        private final int[] words = new int[Tape.MOST];
        private int length;
        /** Where the tests begin and end: those of the rules, then those of the mottos. */
        private final int[] starts = new int[TESTS];
        private final int[] stops = new int[TESTS];
        private final int[] letters = new int[MOST_MOTTOS * NAME_LETTERS];
        /** Six open brackets with all that waits in each need far fewer. */
        private final int[] stack = new int[64];
        private int measure = USUAL_MEASURE;
        private int rules;
        private int mottos;

        void clear() {
            length = 0;
            rules = 0;
            mottos = 0;
            measure = USUAL_MEASURE;
        }

        void emit(int word) {
            if (length < words.length) {
                words[length] = word;
                length++;
            }
        }

        /** What was emitted from there on is one motto more, or one rule. */
        void close(boolean motto, int from) {
            int test = motto ? FIRST_MOTTO + mottos : rules;
            if (test >= TESTS) {
                return;
            }
            starts[test] = from;
            stops[test] = length;
            mottos += motto ? 1 : 0;
            rules += motto ? 0 : 1;
        }

        /** Letter k of the name that the next motto will have. */
        void spell(int k, int letter) {
            if (mottos < MOST_MOTTOS && k >= 0 && k < NAME_LETTERS) {
                letters[mottos * NAME_LETTERS + k] = letter;
            }
        }

        /** Whether the name of the next motto is that of an earlier one. */
        boolean isNameTaken() {
            for (int motto = 0; motto < mottos; motto++) {
                boolean same = mottos < MOST_MOTTOS;
                for (int k = 0; k < NAME_LETTERS && same; k++) {
                    same = letters[motto * NAME_LETTERS + k] == letters[mottos * NAME_LETTERS + k];
                }
                if (same) {
                    return true;
                }
            }
            return false;
        }

        int letterOf(int motto, int k) {
            if (motto < 0 || motto >= mottos || motto >= MOST_MOTTOS || k < 0 || k >= NAME_LETTERS) {
                return NONE;
            }
            return letters[motto * NAME_LETTERS + k];
        }

        boolean holds(int test, int[] facts) {
            if (test < 0 || test >= TESTS) {
                return false;
            }
            int top = 0;
            for (int i = starts[test]; i < stops[test] && i < words.length; i++) {
                int word = words[i];
                if (word < NOT) {
                    if (top < stack.length) {
                        stack[top] = word < FACT ? word : factAt(facts, word - FACT);
                        top++;
                    }
                } else if (word == NOT) {
                    if (top > 0) {
                        stack[top - 1] = 1 - stack[top - 1];
                    }
                } else if (top > 1) {
                    top--;
                    stack[top - 1] = join(word, stack[top - 1], stack[top]);
                }
            }
            return top > 0 && stack[0] == 1;
        }

        private static int factAt(int[] facts, int fact) {
            return fact >= 0 && fact < facts.length ? facts[fact] : 0;
        }

        private static int join(int word, int a, int b) {
            switch (word) {
                case OR: return a | b;
                case AND: return a & b;
                case LESS: return a < b ? 1 : 0;
                case MORE: return a > b ? 1 : 0;
                case SAME: return a == b ? 1 : 0;
                case PLUS: return limited((long) a + b);
                case MINUS: return limited((long) a - b);
                case TIMES: return limited((long) a * b);
                case BY: return b == 0 ? 0 : Math.floorDiv(a, b);
                case LEAST: return Math.min(a, b);
                default: return Math.max(a, b);
            }
        }

        private static int limited(long value) {
            if (value > LIMIT) {
                return LIMIT;
            }
            return value < -LIMIT ? -LIMIT : (int) value;
        }
    }

    /** Reads the two languages; keeps the first fault along the text. */
    private static final class Reader {
        /** The own words in cells of seven, by the numbers below. */
        private static final String WORDS =
            "step   for    rest   measurebad    motto  when   or     and    not    all    gap    sort   under  beat   rise   climb  was    last   delay  high   mirror back   pace   min    max    ";
        private static final int CELL = 7;
        private static final int STEP = 0;
        private static final int FOR = 1;
        private static final int REST_WORD = 2;
        private static final int MEASURE = 3;
        private static final int BAD = 4;
        private static final int MOTTO = 5;
        private static final int WHEN = 6;
        private static final int OR = 7;
        private static final int AND = 8;
        private static final int NOT = 9;
        private static final int ALL = 10;
        private static final int GAP = 11;
        private static final int DELAY = 19;
        private static final int MIN = 24;
        private static final int MAX = 25;

        private static final int UNREADABLE = 1;
        private static final int IMPOSSIBLE = 2;
        private static final int TAKEN = 3;
        private static final int TOO_DEEP = 4;
        private static final int TOO_MANY = 5;

        private static final int MOST_STATEMENTS = 60;
        private static final int MOST_OPEN = 6;
        private static final int DIGITS = 4;
        private static final int GREATEST = 9999;

        private final Tape tape;
        private Book book;
        private int at;
        /** Where the latest word or number ended: none may begin there. */
        private int glue;
        /** Where the word that was looked at ends. */
        private int wordStop;
        private int open;
        private int firstFact;
        private int factStop;
        private int fault;
        private int place = NONE;

        Reader(Tape text, Book into) {
            tape = text;
            book = into;
        }

        private void begin() {
            at = 0;
            glue = NONE;
            open = 0;
            fault = 0;
            place = NONE;
        }

        /** How many statements the text has, put into a line; NONE with a fault. */
        int readLine(Line into) {
            begin();
            into.clear();
            for (int n = 0; n < MOST_NOTES; n++) {
                if (peek() == NONE) {
                    return n;
                }
                if (!noteStatement(into)) {
                    return NONE;
                }
            }
            return closing(MOST_NOTES);
        }

        /** The same, put into a book. */
        int readBook(Book into) {
            begin();
            book = into;
            book.clear();
            for (int n = 0; n < MOST_STATEMENTS; n++) {
                if (peek() == NONE) {
                    return n;
                }
                if (!bookStatement()) {
                    return NONE;
                }
            }
            return closing(MOST_STATEMENTS);
        }

        /** Behind the most statements that may be nothing else may stand. */
        private int closing(int statements) {
            if (peek() == NONE) {
                return statements;
            }
            fail(TOO_MANY, at);
            return NONE;
        }

        private boolean noteStatement(Line into) {
            int step = REST;
            if (accept(STEP)) {
                step = number(0, TOP_STEP);
                if (step == NONE) {
                    return false;
                }
            } else if (!expect(REST_WORD)) {
                return false;
            }
            if (!expect(FOR)) {
                return false;
            }
            int length = number(1, Math.min(LONGEST, MOST_TICKS - into.total));
            return length != NONE && into.add(step, length) && expectSign(';');
        }

        private boolean bookStatement() {
            int word = wordAhead();
            if (word != MEASURE && word != BAD && word != MOTTO) {
                return fail(UNREADABLE, at);
            }
            if (word == BAD && book.rules >= MOST_RULES || word == MOTTO && book.mottos >= MOST_MOTTOS) {
                return fail(TOO_MANY, at);
            }
            passWord();
            if (word == MEASURE) {
                return measure() && expectSign(';');
            }
            int from = book.length;
            firstFact = word == MOTTO ? DELAY : GAP;
            factStop = word == MOTTO ? MIN : DELAY;
            if (word == MOTTO && !name() || !expect(WHEN) || !test() || !expectSign(';')) {
                return false;
            }
            book.close(word == MOTTO, from);
            return true;
        }

        private boolean measure() {
            int measure = number(2, 12);
            if (measure == NONE) {
                return false;
            }
            book.measure = measure;
            return true;
        }

        private boolean name() {
            if (!isLetter(peek())) {
                return fail(UNREADABLE, at);
            }
            if (wordAhead() != NONE) {
                return fail(UNREADABLE, at);
            }
            for (int k = 0; k < NAME_LETTERS; k++) {
                book.spell(k, at + k < wordStop ? tape.at(at + k) - 'a' + 1 : 0);
            }
            if (wordStop - at > NAME_LETTERS) {
                return fail(UNREADABLE, at + NAME_LETTERS);
            }
            if (book.isNameTaken()) {
                return fail(TAKEN, at);
            }
            passWord();
            return true;
        }

        private boolean test() {
            if (!both()) {
                return false;
            }
            for (int n = 0; n < Tape.MOST && accept(OR); n++) {
                if (!both()) {
                    return false;
                }
                book.emit(Book.OR);
            }
            return true;
        }

        private boolean both() {
            if (!fact()) {
                return false;
            }
            for (int n = 0; n < Tape.MOST && accept(AND); n++) {
                if (!fact()) {
                    return false;
                }
                book.emit(Book.AND);
            }
            return true;
        }

        private boolean fact() {
            if (peek() == '[') {
                return opens() && expectSign('[') && test() && expectSign(']') && closes();
            }
            int word = wordAhead();
            if (word == NOT) {
                if (!opens() || !expect(NOT) || !fact()) {
                    return false;
                }
                book.emit(Book.NOT);
                return closes();
            }
            if (word == ALL) {
                book.emit(1);
                return expect(ALL);
            }
            if (!sum()) {
                return false;
            }
            int sign = peek();
            if (sign != '<' && sign != '>' && sign != '=') {
                return fail(UNREADABLE, at);
            }
            at++;
            if (!sum()) {
                return false;
            }
            book.emit(sign == '<' ? Book.LESS : sign == '>' ? Book.MORE : Book.SAME);
            return true;
        }

        private boolean sum() {
            if (!product()) {
                return false;
            }
            for (int n = 0; n < Tape.MOST; n++) {
                int sign = peek();
                if (sign != '+' && sign != '-') {
                    return true;
                }
                at++;
                if (!product()) {
                    return false;
                }
                book.emit(sign == '+' ? Book.PLUS : Book.MINUS);
            }
            return true;
        }

        private boolean product() {
            if (!part()) {
                return false;
            }
            for (int n = 0; n < Tape.MOST; n++) {
                int sign = peek();
                if (sign != '*' && sign != '/') {
                    return true;
                }
                at++;
                if (!part()) {
                    return false;
                }
                book.emit(sign == '*' ? Book.TIMES : Book.BY);
            }
            return true;
        }

        private boolean part() {
            int sign = peek();
            if (sign == '(') {
                return opens() && expectSign('(') && sum() && expectSign(')') && closes();
            }
            if (isDigit(sign)) {
                int value = number(0, GREATEST);
                book.emit(value);
                return value != NONE;
            }
            int word = wordAhead();
            if (word >= firstFact && word < factStop) {
                book.emit(Book.FACT + word - firstFact);
                return expect(word);
            }
            if (word != MIN && word != MAX) {
                return fail(UNREADABLE, at);
            }
            return expect(word) && choice(word == MIN ? Book.LEAST : Book.MOST);
        }

        private boolean choice(int kind) {
            if (peek() != '(') {
                return fail(UNREADABLE, at);
            }
            if (!opens() || !expectSign('(') || !sum() || !expectSign(',') || !sum() || !expectSign(')')) {
                return false;
            }
            book.emit(kind);
            return closes();
        }

        private boolean opens() {
            if (open >= MOST_OPEN) {
                return fail(TOO_DEEP, at);
            }
            open++;
            return true;
        }

        private boolean closes() {
            open--;
            return true;
        }

        /** A number that may be from least to most; NONE with a fault. */
        private int number(int least, int most) {
            if (!isDigit(peek()) || at == glue) {
                fail(UNREADABLE, at);
                return NONE;
            }
            int from = at;
            int value = 0;
            for (int n = 0; n < DIGITS && isDigit(tape.at(at)); n++) {
                value = 10 * value + tape.at(at) - '0';
                at++;
            }
            if (isDigit(tape.at(at))) {
                fail(UNREADABLE, at);
                return NONE;
            }
            if (value < least || value > most) {
                fail(IMPOSSIBLE, from);
                return NONE;
            }
            glue = at;
            return value;
        }

        private boolean expect(int word) {
            if (wordAhead() != word) {
                return fail(UNREADABLE, at);
            }
            passWord();
            return true;
        }

        private boolean accept(int word) {
            if (wordAhead() != word) {
                return false;
            }
            passWord();
            return true;
        }

        private void passWord() {
            at = wordStop;
            glue = wordStop;
        }

        private boolean expectSign(int sign) {
            if (peek() != sign) {
                return fail(UNREADABLE, at);
            }
            at++;
            return true;
        }

        /** The own word that stands next, NONE when another one does or none. */
        private int wordAhead() {
            if (!isLetter(peek()) || at == glue) {
                return NONE;
            }
            wordStop = at;
            while (wordStop < tape.length && isLetter(tape.at(wordStop))) {
                wordStop++;
            }
            for (int cell = 0; cell + CELL <= WORDS.length() && wordStop - at <= CELL; cell += CELL) {
                int same = 0;
                while (same < CELL && WORDS.charAt(cell + same) == (at + same < wordStop ? tape.at(at + same) : ' ')) {
                    same++;
                }
                if (same == CELL) {
                    return cell / CELL;
                }
            }
            return NONE;
        }

        /** The next byte that is no blank, NONE behind the last. */
        private int peek() {
            while (at < tape.length && (tape.bytes[at] == ' ' || tape.bytes[at] == '\n')) {
                at++;
            }
            return at < tape.length ? tape.bytes[at] : NONE;
        }

        private boolean fail(int kind, int where) {
            fault = kind;
            place = where;
            return false;
        }

        private static boolean isLetter(int sign) {
            return sign >= 'a' && sign <= 'z';
        }

        private static boolean isDigit(int sign) {
            return sign >= '0' && sign <= '9';
        }
    }

    /** One follower (the leader, too): how it sings a line. */
    private static final class Voice {
        private int delay;
        private int high;
        private int mirror;
        private int back;
        private int pace;

        void take(int code) {
            delay = code / (HIGHS * KINDS);
            high = code / KINDS % HIGHS - HIGHEST;
            mirror = code / 6 % 2;
            back = code / 3 % 2;
            pace = code % 3;
        }

        /** How long it sings a note of so many ticks. */
        int stretch(int ticks) {
            if (pace == 1) {
                return 2 * ticks;
            }
            return pace == DOUBLE_PACE ? (ticks + 1) / 2 : ticks;
        }

        /** The tick in which it is over. */
        int stop(Line line) {
            return delay + stretch(line.total);
        }

        /** The number of the note that it has in a tick, NONE ahead and behind. */
        int number(Line line, int tick) {
            int u = tick - delay;
            if (u < 0) {
                return NONE;
            }
            if (pace == 1) {
                return turned(line, u / 2);
            }
            return turned(line, pace == DOUBLE_PACE ? 2 * u : u);
        }

        /** The same by the tick of the line, counted from where it begins. */
        int turned(Line line, int i) {
            return line.ownerOf(back == 1 ? line.total - 1 - i : i);
        }

        /** What it sings while it has a note, NOTHING in a rest and without one. */
        int tone(Line line, int number) {
            int step = line.stepOf(number);
            if (step == REST) {
                return NOTHING;
            }
            return high + (mirror == 1 ? 2 * line.opening - step : step);
        }
    }

    /** Two voices over a line: the moments in which both sing and a note of one begins. */
    private static final class Duet {
        /** Each note of each voice begins once. */
        static final int MOST = 2 * MOST_NOTES;
        private final int[] ticks = new int[MOST];
        /** How far the second one is above the first one. */
        private final int[] aparts = new int[MOST];
        /** The same in the tick ahead, NOTHING if one was silent. */
        private final int[] befores = new int[MOST];
        /** Beat, rise, climb and last in one number. */
        private final int[] moves = new int[MOST];
        private final Voice first = new Voice();
        private final Voice second = new Voice();
        private int count;
        private int both;
        private int widest;

        void hear(Line line, int measure, int codeA, int codeB) {
            begin(codeA, codeB);
            int from = Math.max(first.delay, second.delay);
            int to = Math.min(first.stop(line), second.stop(line));
            int lastA = first.number(line, from - 1);
            int lastB = second.number(line, from - 1);
            int nowA = first.number(line, from);
            int nowB = second.number(line, from);
            for (int t = from; t < to; t++) {
                int nextA = first.number(line, t + 1);
                int nextB = second.number(line, t + 1);
                int apart = apartAt(line, nowA, nowB);
                if (apart != NOTHING) {
                    both++;
                    widest = Math.max(widest, Math.abs(apart));
                    if (nowA != lastA || nowB != lastB) {
                        int last = apartAt(line, nextA, nextB) == NOTHING ? 1 : 0;
                        mark(t, apart, apartAt(line, lastA, lastB));
                        moved(beatOf(t, measure), rise(first, line, lastA, nowA), rise(second, line, lastB, nowB), last);
                    }
                }
                lastA = nowA;
                lastB = nowB;
                nowA = nextA;
                nowB = nextB;
            }
        }

        /** The same for a round of the leader and a follower of pace 0. */
        void hearRound(Line line, int measure, int code) {
            begin(LEADER, code);
            int total = line.total;
            if (total == 0) {
                return;
            }
            for (int t = second.delay; t < second.delay + total; t++) {
                int u = t - second.delay;
                int lastA = first.turned(line, Math.floorMod(t - 1, total));
                int nowA = first.turned(line, Math.floorMod(t, total));
                int lastB = second.turned(line, Math.floorMod(u - 1, total));
                int nowB = second.turned(line, Math.floorMod(u, total));
                int apart = apartAt(line, nowA, nowB);
                if (apart != NOTHING && (nowA != lastA || nowB != lastB)) {
                    mark(t, apart, apartAt(line, lastA, lastB));
                    moved(beatOf(t, measure), rise(first, line, lastA, nowA), rise(second, line, lastB, nowB), 0);
                }
            }
        }

        /** The leader stands ahead of all, then the lesser code. */
        private void begin(int codeA, int codeB) {
            boolean inOrder = codeA == LEADER || codeB != LEADER && codeA < codeB;
            first.take(inOrder ? codeA : codeB);
            second.take(inOrder ? codeB : codeA);
            count = 0;
            both = 0;
            widest = 0;
        }

        private static int beatOf(int tick, int measure) {
            return measure > 0 ? tick % measure : 0;
        }

        private int apartAt(Line line, int numberA, int numberB) {
            int toneA = first.tone(line, numberA);
            int toneB = second.tone(line, numberB);
            return toneA == NOTHING || toneB == NOTHING ? NOTHING : toneB - toneA;
        }

        private static int rise(Voice voice, Line line, int last, int now) {
            int before = voice.tone(line, last);
            return before == NOTHING ? 0 : voice.tone(line, now) - before;
        }

        private void mark(int tick, int apart, int before) {
            if (count < MOST) {
                ticks[count] = tick;
                aparts[count] = apart;
                befores[count] = before;
            }
        }

        private void moved(int beat, int rise, int climb, int last) {
            if (count < MOST) {
                moves[count] = Judge.packMoves(beat, rise, climb, last);
                count++;
            }
        }

        int tickOf(int moment) {
            return moment >= 0 && moment < count && moment < MOST ? ticks[moment] : NONE;
        }
    }

    /** Tells which rules a moment breaks, and keeps what it has told. */
    private static final class Judge {
        private static final int SLOTS = 4096;
        private static final int SILENT = 7;
        private final int[] keys = new int[SLOTS];
        private final int[] verdicts = new int[SLOTS];
        private final int[] facts = new int[8];
        private Book book;

        Judge(Book firstBook) {
            follow(firstBook);
        }

        void follow(Book newBook) {
            book = newBook;
            Arrays.fill(keys, NONE);
        }

        /** Beat in 4 bits, rise and climb (-28 .. 28) in 6 each, last in one. */
        static int packMoves(int beat, int rise, int climb, int last) {
            return ((beat * 64 + rise + 32) * 64 + climb + 32) * 2 + last;
        }

        /** The rules whose tests hold in a moment, as bits; the second voice being so much higher still. */
        int verdict(Duet duet, int moment, int higher) {
            if (book.rules == 0 || moment < 0 || moment >= duet.count || moment >= Duet.MOST) {
                return 0;
            }
            int apart = duet.aparts[moment] + higher;
            int before = duet.befores[moment];
            int was = before == NOTHING ? SILENT : Math.abs(before + higher) % 7;
            int key = ((apart + 128) * 8 + was) << 17 | duet.moves[moment];
            int slot = key * 0x9E3779B1 >>> 20;
            if (keys[slot] != key) {
                setFacts(apart, was, duet.moves[moment]);
                int found = 0;
                for (int rule = 0; rule < book.rules; rule++) {
                    found |= book.holds(rule, facts) ? 1 << rule : 0;
                }
                keys[slot] = key;
                verdicts[slot] = found;
            }
            return verdicts[slot];
        }

        private void setFacts(int apart, int was, int moves) {
            facts[0] = Math.abs(apart);
            facts[1] = Math.abs(apart) % 7;
            facts[2] = apart < 0 ? 1 : 0;
            facts[3] = moves >> 13;
            facts[4] = (moves >> 7 & 63) - 32;
            facts[5] = (moves >> 1 & 63) - 32;
            facts[6] = was;
            facts[7] = moves & 1;
        }

        /** The first moment from one on that is broken, NONE without. */
        int nextBroken(Duet duet, int from) {
            for (int moment = from; moment < duet.count; moment++) {
                if (verdict(duet, moment, 0) != 0) {
                    return moment;
                }
            }
            return NONE;
        }

        int countBroken(Duet duet) {
            int found = 0;
            for (int moment = 0; moment < duet.count; moment++) {
                found += verdict(duet, moment, 0) != 0 ? 1 : 0;
            }
            return found;
        }

        /** The first rule that holds in a broken moment. */
        int ruleAt(Duet duet, int moment) {
            return Integer.bitCount(lowestBit(verdict(duet, moment, 0)) - 1);
        }
    }

    /** The followers within the bounds that have no breach with the leader. */
    private static final class Ways {
        private static final int ALL_SIGNS = 31;
        private static final int MASKS = 64;
        private int latest = 8;
        private int reach = 4;
        private int kinds;
        private boolean ready;
        private int count;
        private final int[] codes = new int[CODES];
        /** Of each way the mottos that mean it, as bits. */
        private final int[] senses = new int[CODES];
        /** Of each rule how many have their breach by it. */
        private final int[] breaches = new int[MOST_RULES];
        /** Of each rule how many break no other one. */
        private final int[] spared = new int[MOST_RULES];
        /** Of the codes of one delay: 1, if it is a way. */
        private final int[] free = new int[HIGHS * KINDS];
        private final int[] tally = new int[MASKS];
        private final int[] facts = new int[5];
        private final Voice voice = new Voice();

        /** Whether the kinds allow such mirror, back and pace. */
        boolean allows(int kind) {
            int needed = kind / 6 % 2 + kind / 3 % 2 * 2;
            if (kind % 3 != 0) {
                needed += kind % 3 == 1 ? 4 : 8;
            }
            return (needed & ~kinds) == 0;
        }

        /** Seeks the ways of a line: how many there are. */
        int survey(Line line, Book book, Judge judge, Duet duet) {
            count = 0;
            Arrays.fill(breaches, 0);
            Arrays.fill(spared, 0);
            for (int delay = 0; delay <= latest; delay++) {
                Arrays.fill(free, 0);
                for (int kind = 0; kind < KINDS; kind++) {
                    int level = OneLine.codeOf(delay, 0, kind);
                    if (!allows(kind) || !canBe(line, level)) {
                        continue;
                    }
                    // A follower sings at every height alike: one hearing serves them all.
                    duet.hear(line, book.measure, LEADER, level);
                    for (int high = -reach; high <= reach; high++) {
                        tryOne(judge, duet, level, high);
                    }
                }
                gather(delay);
            }
            return count;
        }

        private void tryOne(Judge judge, Duet duet, int level, int high) {
            int code = level + high * KINDS;
            if (code == LEADER) {
                return;
            }
            int first = 0;
            int all = 0;
            for (int moment = 0; moment < duet.count && Integer.bitCount(all) < 2; moment++) {
                int verdict = judge.verdict(duet, moment, high);
                first = all == 0 ? lowestBit(verdict) : first;
                all |= verdict;
            }
            if (all == 0) {
                free[Math.floorMod(code, HIGHS * KINDS)] = 1;
                return;
            }
            for (int rule = 0; rule < MOST_RULES; rule++) {
                breaches[rule] += first == 1 << rule ? 1 : 0;
                spared[rule] += all == 1 << rule ? 1 : 0;
            }
        }

        private void gather(int delay) {
            for (int i = 0; i < free.length; i++) {
                if (free[i] == 1 && count < CODES) {
                    codes[count] = delay * HIGHS * KINDS + i;
                    count++;
                }
            }
        }

        /** Which mottos mean which ways. */
        void weigh(Book book) {
            for (int k = 0; k < count && k < CODES; k++) {
                senses[k] = 0;
                if (book.mottos > 0) {
                    voice.take(codes[k]);
                    senses[k] = senseOf(book);
                }
            }
        }

        private int senseOf(Book book) {
            facts[0] = voice.delay;
            facts[1] = voice.high;
            facts[2] = voice.mirror;
            facts[3] = voice.back;
            facts[4] = voice.pace;
            int found = 0;
            for (int motto = 0; motto < book.mottos; motto++) {
                found |= book.holds(Book.FIRST_MOTTO + motto, facts) ? 1 << motto : 0;
            }
            return found;
        }

        private boolean holds(int k) {
            return k >= 0 && k < count && k < CODES;
        }

        int codeOf(int k) {
            return holds(k) ? codes[k] : NONE;
        }

        int countBroken(int rule) {
            return rule >= 0 && rule < MOST_RULES ? breaches[rule] : NONE;
        }

        int countWithout(int rule) {
            return rule >= 0 && rule < MOST_RULES ? count + spared[rule] : NONE;
        }

        /** The signs in which two codes are alike. */
        private static int agreement(int a, int b) {
            int found = a / (HIGHS * KINDS) == b / (HIGHS * KINDS) ? 1 : 0;
            found += a / KINDS % HIGHS == b / KINDS % HIGHS ? 2 : 0;
            found += a / 6 % 2 == b / 6 % 2 ? 4 : 0;
            found += a / 3 % 2 == b / 3 % 2 ? 8 : 0;
            return found + (a % 3 == b % 3 ? 16 : 0);
        }

        int countLike(int k, int signs) {
            if (!holds(k) || signs < 0 || signs > ALL_SIGNS) {
                return NONE;
            }
            int found = 0;
            for (int i = 0; i < count; i++) {
                found += (agreement(codes[k], codes[i]) & signs) == signs ? 1 : 0;
            }
            return found;
        }

        int fewestSigns(int k) {
            if (!holds(k)) {
                return NONE;
            }
            Arrays.fill(tally, 0);
            for (int i = 0; i < count; i++) {
                tally[agreement(codes[k], codes[i])]++;
            }
            return fewest(ALL_SIGNS);
        }

        int fewestMottos(int k) {
            if (!holds(k)) {
                return NONE;
            }
            Arrays.fill(tally, 0);
            for (int i = 0; i < count; i++) {
                tally[senses[i] & MASKS - 1]++;
            }
            return fewest(senses[k]);
        }

        /** Of the sets within some bits that just one has whole the smallest, then the least; NONE without. */
        private int fewest(int within) {
            for (int size = 0; size <= MOST_MOTTOS; size++) {
                for (int set = 0; set < MASKS; set++) {
                    if (Integer.bitCount(set) == size && (set & ~within) == 0 && countHaving(set) == 1) {
                        return set;
                    }
                }
            }
            return NONE;
        }

        private int countHaving(int set) {
            int found = 0;
            for (int mask = 0; mask < MASKS; mask++) {
                found += (mask & set) == set ? tally[mask] : 0;
            }
            return found;
        }

        boolean isMeant(int k, int mottos) {
            return holds(k) && (senses[k] & mottos) == mottos;
        }

        int countMeant(int mottos) {
            int found = 0;
            for (int k = 0; k < count; k++) {
                found += isMeant(k, mottos) ? 1 : 0;
            }
            return found;
        }

        int nthMeant(int mottos, int n) {
            int found = 0;
            for (int k = 0; k < count; k++) {
                if (isMeant(k, mottos)) {
                    if (found == n) {
                        return k;
                    }
                    found++;
                }
            }
            return NONE;
        }

        /** The delay (or high) that most have, or how many have it. */
        int commonest(boolean ofDelay, boolean howMany) {
            Arrays.fill(tally, 0);
            for (int k = 0; k < count; k++) {
                tally[ofDelay ? codes[k] / (HIGHS * KINDS) % MASKS : codes[k] / KINDS % HIGHS]++;
            }
            int best = 0;
            for (int i = 1; i < MASKS; i++) {
                best = tally[i] > tally[best] ? i : best;
            }
            if (howMany) {
                return tally[best];
            }
            return ofDelay ? best : best - HIGHEST;
        }
    }

    /** The ways of three and of four voices. */
    private static final class Sets {
        private static final int FIRST = 40;
        private boolean ready;
        /** Of each way those behind it with which it has no breach, as bits. */
        private final long[] fits = new long[FIRST];
        private final int[] pairs = new int[FIRST * (FIRST - 1) / 2];
        private final int[] triples = new int[FIRST * (FIRST - 1) * (FIRST - 2) / 6];
        private int trios;
        private int quartets;

        void build(Line line, Book book, Ways ways, Judge judge, Duet duet) {
            int among = Math.min(ways.count, FIRST);
            trios = 0;
            quartets = 0;
            for (int a = 0; a < among; a++) {
                fits[a] = 0;
                for (int b = a + 1; b < among; b++) {
                    duet.hear(line, book.measure, ways.codeOf(a), ways.codeOf(b));
                    if (judge.nextBroken(duet, 0) == NONE) {
                        fits[a] |= 1L << b;
                    }
                }
            }
            for (int a = 0; a < among; a++) {
                for (int b = a + 1; b < among; b++) {
                    if ((fits[a] >> b & 1) == 1) {
                        addPair(a, b, among);
                    }
                }
            }
        }

        private void addPair(int a, int b, int among) {
            if (trios < pairs.length) {
                pairs[trios] = a * FIRST + b;
                trios++;
            }
            long thirds = fits[a] & fits[b];
            for (int c = b + 1; c < among; c++) {
                if ((thirds >> c & 1) == 1 && quartets < triples.length) {
                    triples[quartets] = (a * FIRST + b) * FIRST + c;
                    quartets++;
                }
            }
        }

        /** The j-th of the k-th set, by its number among the ways of two voices. */
        int memberOf(int voices, int k, int j) {
            if (k < 0 || k >= (voices == 3 ? trios : quartets) || j < 0 || j > voices - 2) {
                return NONE;
            }
            int packed = voices == 3 ? pairs[k] : triples[k];
            for (int i = j; i < voices - 2; i++) {
                packed /= FIRST;
            }
            return packed % FIRST;
        }
    }

    /** Which ways sing alike. */
    private static final class Likeness {
        private static final int HEADS = 1024;
        private boolean ready;
        private int unlikes;
        private int count;
        /** Of each way the first one that sings as it does. */
        private final int[] firsts = new int[CODES];
        private final int[] prints = new int[CODES];
        /** Chains of those that are the first of their like, by their prints. */
        private final int[] heads = new int[HEADS];
        private final int[] nexts = new int[CODES];
        private final Score score = new Score();
        private final Score other = new Score();

        void build(Line line, Ways ways) {
            unlikes = 0;
            count = ways.count;
            Arrays.fill(heads, NONE);
            for (int k = 0; k < count && k < CODES; k++) {
                score.write(line, ways.codeOf(k));
                prints[k] = score.print();
                int head = prints[k] & HEADS - 1;
                firsts[k] = search(line, ways, heads[head], prints[k]);
                if (firsts[k] == NONE) {
                    firsts[k] = k;
                    nexts[k] = heads[head];
                    heads[head] = k;
                    unlikes++;
                }
            }
        }

        private int search(Line line, Ways ways, int head, int print) {
            int at = head;
            for (int n = 0; n < CODES && at >= 0 && at < CODES; n++) {
                if (prints[at] == print) {
                    other.write(line, ways.codeOf(at));
                    if (score.isSame(other)) {
                        return at;
                    }
                }
                at = nexts[at];
            }
            return NONE;
        }

        int firstOf(int k) {
            return k >= 0 && k < count && k < CODES ? firsts[k] : NONE;
        }
    }

    /** What a follower sings, by the ticks in which it changes. */
    private static final class Score {
        private final int[] ticks = new int[MOST_NOTES + 1];
        private final int[] tones = new int[MOST_NOTES + 1];
        private int count;
        private final Voice voice = new Voice();

        void write(Line line, int code) {
            voice.take(code);
            count = 0;
            int tick = voice.delay;
            int tone = NOTHING;
            for (int n = 0; n < line.count; n++) {
                int number = voice.back == 1 ? line.count - 1 - n : n;
                int now = voice.tone(line, number);
                if (now != tone) {
                    put(tick, now);
                }
                tone = now;
                tick += voice.stretch(line.lengthOf(number));
            }
            if (tone != NOTHING) {
                put(tick, NOTHING);
            }
        }

        private void put(int tick, int tone) {
            if (count < ticks.length) {
                ticks[count] = tick;
                tones[count] = tone;
                count++;
            }
        }

        int print() {
            int found = count;
            for (int i = 0; i < count; i++) {
                found = (found * 31 + ticks[i]) * 131 + tones[i];
            }
            return found ^ found >>> 15;
        }

        boolean isSame(Score that) {
            if (count != that.count) {
                return false;
            }
            for (int i = 0; i < count; i++) {
                if (ticks[i] != that.ticks[i] || tones[i] != that.tones[i]) {
                    return false;
                }
            }
            return true;
        }
    }
}
