import java.util.LinkedHashMap;
import java.util.Map;
import java.util.function.Consumer;
import java.util.function.ToIntFunction;

/** The boundary cases of bounds and ways, signs and mottos, and of promises 18 to 30. */
public final class EdgesOfWaysTest {
    private static final int NONE = Edge.NONE;
    private static final int NO = Edge.NOTHING;
    private static final int LEADER = Edge.LEADER;
    private static final String TWO = "step 0 for 2;";
    /** How many voices there never are. */
    private static final int[] OTHER_VOICES = {1, 5, 0, -2, Edge.LEAST, Edge.MOST};

    private EdgesOfWaysTest() {
    }

    public static void main(String[] args) {
        withinBounds();
        noBreach();
        anew();
        sets();
        firstForty();
        fewestSigns();
        meaning();
        fewestMottos();
        ways();
        way();
        signs();
        like();
        means();
        mean();
        mottos();
        common();
        over();
        alike();
        unlike();
        rule();
        meant();
        Edge.finish(18, 30);
    }

    private static int code(int delay, int high, int mirror, int back, int pace) {
        return Edge.code(delay, high, mirror, back, pace);
    }

    private static OneLine bounded(String line, String book, int delay, int high, int kinds) {
        OneLine x = Edge.with(line, book);
        Edge.due("bounds", x.bounds(delay, high, kinds) >= 0, true);
        return x;
    }

    private static boolean isWithin(OneLine x, int code, int delay, int high, int kinds) {
        int pace = x.follower(code, 4);
        return x.follower(code, 0) <= delay && Math.abs(x.follower(code, 1)) <= high
            && (x.follower(code, 2) == 0 || (kinds & 1) != 0) && (x.follower(code, 3) == 0 || (kinds & 2) != 0)
            && (pace != 1 || (kinds & 4) != 0) && (pace != 2 || (kinds & 8) != 0);
    }

    private static void withinBounds() {
        Edge.says(Edge.TERMS, "BOUNDS: delays 0 .. D, high -S .. S, kinds as bits (mirror 1, back 2, pace one half 4, double 8 may be;");
        for (int kinds = 0; kinds < 16; kinds++) {
            allWithin(0, 0, kinds);
            allWithin(1, 0, kinds);
            allWithin(1, 1, kinds);
        }
        allWithin(0, 2, 0);
        OneLine x = bounded(TWO, "", 24, 7, 15);
        Edge.due("the widest", x.ways(2), 4499);
        Edge.due("its first", x.way(2, 0, 0), 0);
        Edge.due("ahead of the leader's place", x.way(2, 83, 0), 83);
        Edge.due("at the leader's place", x.way(2, 84, 0), 85);
        Edge.due("its last", x.way(2, 4498, 0), 4499);
        Edge.due("no more", x.way(2, 4499, 0), NONE);
    }

    /** Without rules all within the bounds are ways, but for the leader. */
    private static void allWithin(int delay, int high, int kinds) {
        OneLine x = bounded(TWO, "", delay, high, kinds);
        int k = 0;
        for (int c = 0; c < 360; c++) {
            if (c != LEADER && isWithin(new OneLine(), c, delay, high, kinds)) {
                Edge.due("way " + k + " within " + delay + ", " + high + ", " + kinds, x.way(2, k, 0), c);
                k++;
            }
        }
        Edge.due("no more", x.way(2, k, 0), NONE);
        Edge.due("so many", x.ways(2), k);
    }

    private static void noBreach() {
        Edge.says(Edge.TERMS, "WAYS: of FOLLOWERS within THE BOUNDS, by CODES, those that can be, are not THE LEADER, and have no BREACH with it.");
        OneLine x = bounded("step 0 for 1;", "", 1, 0, 8);
        Edge.due("double can't be", x.ways(2), 1);
        Edge.due("the other one", x.way(2, 0, 0), code(1, 0, 0, 0, 0));
        Edge.line(x, TWO);
        Edge.due("double can be", x.ways(2), 3);
        Edge.book(x, "bad when all;");
        Edge.due("those that ever meet are none", x.ways(2), 0);
        x.bounds(3, 0, 0);
        Edge.due("those that never meet are", x.ways(2), 2);
        Edge.due("delay 2", x.way(2, 0, 0), code(2, 0, 0, 0, 0));
        Edge.line(x, "rest for 2;");
        Edge.due("none sings", x.ways(2), 3);
        x.bounds(0, 0, 0);
        Edge.due("the leader alone", x.ways(2), 0);
        String[] tests = {"gap = 1 and beat = 2", "sort = 6 or gap = 3", "under = 1 and gap > 1", "was = 2", "was = 1 and under = 0",
            "rise + climb > 2", "climb < 0 and gap < 3", "last = 1 and gap = 2", "rise > 0 and was < 7", "beat * gap > was + 2"};
        String[] lines = {"step 0 for 2; step 3 for 2; rest for 2; step 1 for 4;", "step 5 for 1; step 4 for 1; step 7 for 2;"};
        for (String line : lines) {
            for (String test : tests) {
                eachByItself(line, "bad when " + test + ";");
            }
        }
    }

    /** Those within the bounds of which breach() says that they have none, and no others. */
    private static void eachByItself(String line, String book) {
        OneLine x = bounded(line, book, 2, 2, 15);
        int k = 0;
        OneLine one = null;
        for (int c = 0; c < 540; c++) {
            one = c % 50 == 0 ? Edge.with(line, book) : one;
            if (c != LEADER && isWithin(one, c, 2, 2, 15) && one.follower(c, 5) == 1 && one.breach(LEADER, c, 0) == NONE) {
                Edge.due("way " + k + " by " + book, x.way(2, k, 0), c);
                k++;
            }
        }
        Edge.due("so many by " + book, x.ways(2), k);
        Edge.due("some are none by " + book, k > 0 && k < x.bounds(2, 2, 15), true);
    }

    private static final String FIRST_LINE = "step 0 for 2; step 2 for 2; step 4 for 2;";
    private static final String FIRST_BOOK = "bad when gap = 1; bad when last = 1; motto a when delay > 0; motto b when high > 0;";

    private static OneLine first() {
        return bounded(FIRST_LINE, FIRST_BOOK, 3, 1, 3);
    }

    private static Map<String, ToIntFunction<OneLine>> calls() {
        Map<String, ToIntFunction<OneLine>> calls = new LinkedHashMap<>();
        for (int voices = 2; voices <= 4; voices++) {
            int n = voices;
            calls.put("ways(" + n + ")", x -> x.ways(n));
            calls.put("way(" + n + ", 1, j)", x -> x.way(n, 1, n - 2));
            calls.put("over(" + n + ", 1)", x -> x.over(n, 1));
            calls.put("meant(" + n + ", 0)", x -> x.meant(n, 0));
        }
        for (int i = 0; i < 4; i++) {
            int what = i;
            calls.put("common(" + what + ")", x -> x.common(what));
        }
        calls.put("signs(1)", x -> x.signs(1));
        calls.put("like(1, 1)", x -> x.like(1, 1));
        calls.put("means(0, -1)", x -> x.means(0, NONE));
        calls.put("means(0, 1)", x -> x.means(0, 1));
        calls.put("mean(1)", x -> x.mean(1));
        calls.put("mottos(0)", x -> x.mottos(0));
        calls.put("alike(2)", x -> x.alike(2));
        calls.put("unlike()", OneLine::unlike);
        calls.put("rule(0, false)", x -> x.rule(0, false));
        calls.put("rule(0, true)", x -> x.rule(0, true));
        return calls;
    }

    /** What changes the line, the book or the bounds, and what leaves them. */
    private static Map<String, Consumer<OneLine>> changes() {
        Map<String, Consumer<OneLine>> changes = new LinkedHashMap<>();
        changes.put("nothing", x -> { });
        changes.put("line", x -> Edge.line(x, "step 0 for 2; step 1 for 2;"));
        changes.put("an empty line", x -> Edge.line(x, ""));
        changes.put("book", x -> Edge.book(x, "bad when gap = 2; motto a when high < 0;"));
        changes.put("an empty book", x -> Edge.book(x, ""));
        changes.put("bounds", x -> x.bounds(1, 2, 0));
        changes.put("change", x -> x.change(1, 5));
        changes.put("draw", x -> x.draw(5, 6, 7));
        changes.put("make", x -> x.make(96, 3, 4));
        changes.put("richest, the line is it", x -> x.richest(2, 2, 1));
        changes.put("richest, the line stays", x -> x.richest(2, 2, 0));
        changes.put("shortest", x -> x.shortest(96, 4));
        changes.put("wrong", x -> x.wrong(96, NONE));
        changes.put("a faulty line", x -> Edge.line(x, "step 9 for 1; x"));
        changes.put("a faulty book", x -> Edge.book(x, "bad when all; x"));
        changes.put("refused bounds", x -> x.bounds(1, 9, 0));
        changes.put("breach", x -> x.breach(264, 96, 0));
        changes.put("round", x -> x.round(264));
        changes.put("image", OneLine::image);
        changes.put("on", x -> onImage(x, 1, 3, 2));
        changes.put("no image", x -> onImage(x, 1, 29, 2));
        return changes;
    }

    /** An image of one note. */
    private static void onImage(OneLine x, int... bytes) {
        int c = 23;
        StringBuilder text = new StringBuilder();
        for (int b : bytes) {
            c = (7 * c + b) % 251;
            text.append((char) b);
        }
        x.end(0);
        Texts.feed(x, text.append((char) c).toString());
        x.on();
    }

    private static void anew() {
        Edge.says(Edge.TERMS, "WAYS: of FOLLOWERS within THE BOUNDS,");
        Map<String, ToIntFunction<OneLine>> calls = calls();
        for (Map.Entry<String, Consumer<OneLine>> change : changes().entrySet()) {
            for (Map.Entry<String, ToIntFunction<OneLine>> call : calls.entrySet()) {
                OneLine told = first();
                for (ToIntFunction<OneLine> each : calls.values()) {
                    each.applyAsInt(told);
                }
                change.getValue().accept(told);
                OneLine fresh = first();
                change.getValue().accept(fresh);
                Edge.due(call.getKey() + " behind " + change.getKey(), call.getValue().applyAsInt(told), call.getValue().applyAsInt(fresh));
            }
        }
        OneLine x = first();
        int ways = x.ways(2);
        Edge.due("others have fewer or more", x.richest(1, 0, 0) != ways, true);
        Edge.due("ways of the line all the same", x.ways(2), ways);
    }

    private static void sets() {
        Edge.says(Edge.TERMS, "of which no two have a BREACH, in order by the first one, then the second one, then the third one.");
        String book = "bad when gap = 2 and under = 0;";
        OneLine x = bounded(TWO, book, 1, 2, 0);
        int n = x.ways(2);
        Edge.due("five less the leader less two above", n, 7);
        boolean[][] fits = new boolean[n][n];
        for (int a = 0; a < n; a++) {
            for (int b = a + 1; b < n; b++) {
                fits[a][b] = x.breach(x.way(2, a, 0), x.way(2, b, 0), 0) == NONE;
            }
        }
        OneLine y = bounded(TWO, book, 1, 2, 0);
        int pairs = 0;
        int threes = 0;
        for (int a = 0; a < n; a++) {
            for (int b = a + 1; b < n; b++) {
                if (fits[a][b]) {
                    Edge.due("first of " + pairs, y.way(3, pairs, 0), y.way(2, a, 0));
                    Edge.due("second of " + pairs, y.way(3, pairs, 1), y.way(2, b, 0));
                    pairs++;
                }
                for (int c = b + 1; c < n; c++) {
                    if (fits[a][b] && fits[a][c] && fits[b][c]) {
                        Edge.due("first of three " + threes, y.way(4, threes, 0), y.way(2, a, 0));
                        Edge.due("second of three " + threes, y.way(4, threes, 1), y.way(2, b, 0));
                        Edge.due("third of three " + threes, y.way(4, threes, 2), y.way(2, c, 0));
                        threes++;
                    }
                }
            }
        }
        Edge.due("pairs", y.ways(3), pairs);
        Edge.due("threes", y.ways(4), threes);
        Edge.due("not all fit", pairs < 21 && threes < 35 && threes > 0, true);
    }

    private static void firstForty() {
        Edge.says(Edge.TERMS, "WAYS of n voices (2 .. 4): sets of n - 1 WAYS (for 3 and 4: of the first 40)");
        int[][] rows = {{0, 0, 0, 0, 0}, {1, 0, 1, 0, 0}, {2, 0, 2, 1, 0}, {3, 0, 3, 3, 1}, {4, 0, 4, 6, 4}, {7, 2, 39, 741, 9139},
            {13, 1, 41, 780, 9880}, {24, 7, 374, 780, 9880}};
        for (int[] row : rows) {
            OneLine x = bounded("", "", row[0], row[1], 0);
            for (int voices = 2; voices <= 4; voices++) {
                Edge.due(row[2] + " ways in " + voices, x.ways(voices), row[voices]);
            }
        }
        OneLine x = bounded("", "", 13, 1, 0);
        Edge.due("the last pair", x.way(3, 779, 0), x.way(2, 38, 0));
        Edge.due("the last pair", x.way(3, 779, 1), x.way(2, 39, 0));
        Edge.due("the first with the last", x.way(3, 38, 1), x.way(2, 39, 0));
        Edge.due("the second begins", x.way(3, 39, 0), x.way(2, 1, 0));
        Edge.due("the last three", x.way(4, 9879, 0), x.way(2, 37, 0));
        Edge.due("the last three", x.way(4, 9879, 1), x.way(2, 38, 0));
        Edge.due("the last three", x.way(4, 9879, 2), x.way(2, 39, 0));
        Edge.due("the 41st is one of two voices", x.way(2, 40, 0), code(13, 1, 0, 0, 0));
    }

    private static void fewestSigns() {
        Edge.says(Edge.TERMS, "THE FEWEST SIGNS: the least number of these, then the least bits, by which no other WAY is like it in all of them.");
        signsAre(1, 0, 0, 0);
        signsAre(0, 0, 1, 0);
        signsAre(2, 0, 0, 1, 1);
        signsAre(0, 1, 0, 2, 2);
        signsAre(0, 0, 3, 4, 8, 12);
        signsAre(0, 0, 12, 16, 16);
        signsAre(1, 1, 0, 3, 3, 3, 2, 3);
        OneLine x = bounded(TWO, "", 1, 1, 15);
        for (int k = 0; k < x.ways(2); k++) {
            Edge.due("signs of " + x.way(2, k, 0), x.signs(k), signsBeside(x.way(2, k, 0)));
        }
        OneLine y = bounded("step 0 for 4;", "bad when gap = 0 or gap > 1 and under = 0 or gap > 0 and under = 1 and beat < 2;", 3, 2, 0);
        Edge.due("ways", y.ways(2) > 1, true);
        for (int k = 0; k < y.ways(2); k++) {
            Edge.due("signs(" + k + ")", y.signs(k), fewestByHand(y, k));
        }
    }

    /** All of some bounds are ways but for the leader: a sign is needed unless only the leader differs in it alone. */
    private static int signsBeside(int code) {
        return code == code(1, 0, 0, 0, 0) ? 30 : code == code(0, 0, 1, 0, 0) ? 27 : code == code(0, 0, 0, 1, 0) ? 23 : 31;
    }

    private static void signsAre(int delay, int high, int kinds, int... due) {
        OneLine x = bounded(TWO, "", delay, high, kinds);
        Edge.due("ways", x.ways(2), due.length);
        for (int k = 0; k < due.length; k++) {
            Edge.due("signs(" + k + ") within " + delay + ", " + high + ", " + kinds, x.signs(k), due[k]);
        }
    }

    private static int fewestByHand(OneLine x, int k) {
        for (int size = 0; size <= 5; size++) {
            for (int bits = 0; bits < 32; bits++) {
                if (Integer.bitCount(bits) == size && x.like(k, bits) == 1) {
                    return bits;
                }
            }
        }
        return NONE;
    }

    private static void meaning() {
        Edge.says(Edge.TERMS, "A MOTTO MEANS those WAYS for which its TEST holds (delay, high, mirror, back, pace as they are).");
        String[] facts = {"delay", "high", "mirror", "back", "pace"};
        for (int what = 0; what < 5; what++) {
            for (int value = -1; value <= 2; value++) {
                String test = facts[what] + (value < 0 ? " = 0 - 1" : " = " + value);
                OneLine x = bounded(TWO, "motto a when " + test + ";", 1, 1, 15);
                int k = 0;
                for (int w = 0; w < 71; w++) {
                    if (x.follower(x.way(2, w, 0), what) == value) {
                        Edge.due(test + " " + k, x.means(0, k), w);
                        k++;
                    }
                }
                Edge.due("so many when " + test, x.means(0, -1), k);
            }
        }
        OneLine far = bounded(TWO, "motto a when delay = 24 and high = 0 - 7; motto b when high = 7 and delay = 0;", 24, 7, 0);
        Edge.due("the latest and lowest", far.way(2, far.means(0, 0), 0), code(24, -7, 0, 0, 0));
        Edge.due("alone", far.means(0, -1), 1);
        Edge.due("the highest", far.way(2, far.means(1, 0), 0), code(0, 7, 0, 0, 0));
    }

    private static void fewestMottos() {
        Edge.says(Edge.TERMS, "THE FEWEST MOTTOS: likewise of the sets of MOTTOS (none, too) all of which mean just one WAY.");
        OneLine x = bounded(TWO, "", 1, 0, 0);
        Edge.due("none needs to", x.mottos(0), 0);
        x.bounds(2, 0, 0);
        Edge.due("without mottos", x.mottos(0), NONE);
        Edge.book(x, "motto a when delay = 2; motto b when delay = 1; motto c when delay = 1;");
        Edge.due("the least bits", x.mottos(0), 2);
        Edge.due("the least bits", x.mottos(1), 1);
        Edge.book(x, "motto a when all; motto b when not all; motto c when delay > 1;");
        Edge.due("none leaves it", x.mottos(0), NONE);
        Edge.due("one is fewer than two", x.mottos(1), 4);
        x.bounds(4, 0, 0);
        Edge.book(x, "motto a when delay < 3; motto b when delay > 1; motto c when delay = 4; motto d when delay < 2; motto e when delay > 2;");
        Edge.due("d", x.mottos(0), 8);
        Edge.due("a and b", x.mottos(1), 3);
        Edge.due("none leaves 3", x.mottos(2), NONE);
        Edge.due("c", x.mottos(3), 4);
        x.bounds(7, 0, 0);
        Edge.book(x, "motto a when not delay = 2; motto b when not delay = 3; motto c when not delay = 4; motto d when not delay = 5;"
            + "motto e when not delay = 6; motto f when not delay = 7;");
        Edge.due("all six", x.mottos(0), 63);
        Edge.due("what they leave out", x.mottos(1), NONE);
        x.bounds(6, 0, 0);
        Edge.due("five", x.mottos(0), 31);
    }

    private static void ways() {
        Edge.says(18, "How many WAYS of n voices there are; NONE for another n.");
        OneLine x = bounded(TWO, "", 2, 0, 0);
        Edge.due("two", x.ways(2), 2);
        Edge.due("three", x.ways(3), 1);
        Edge.due("four", x.ways(4), 0);
        for (int voices : OTHER_VOICES) {
            Edge.due("ways(" + voices + ")", x.ways(voices), NONE);
        }
        Edge.book(x, "bad when all;");
        x.bounds(0, 2, 0);
        for (int voices = 2; voices <= 4; voices++) {
            Edge.due("no ways of " + voices, x.ways(voices), 0);
        }
    }

    private static void way() {
        Edge.says(19, "Of the k-th WAY of n voices the j-th FOLLOWER's CODE (from 0 on); NONE when there is none such.");
        OneLine x = bounded(TWO, "", 3, 0, 0);
        for (int j = 0; j < 3; j++) {
            Edge.due("way(4, 0, " + j + ")", x.way(4, 0, j), code(1 + j, 0, 0, 0, 0));
        }
        int[][] none = {{2, 3, 0}, {2, -1, 0}, {2, 0, 1}, {2, 0, -1}, {3, 3, 0}, {3, 0, 2}, {3, -1, 0}, {3, 0, -1}, {4, 1, 0}, {4, 0, 3},
            {4, -1, 0}, {4, 0, -1}, {2, Edge.MOST, 0}, {2, Edge.LEAST, 0}, {3, Edge.MOST, 0}, {3, Edge.LEAST, 0}, {4, Edge.MOST, 0},
            {4, Edge.LEAST, 0}, {2, 0, Edge.MOST}, {3, 0, Edge.LEAST}, {4, 0, Edge.MOST}};
        for (int[] row : none) {
            Edge.due("way(" + row[0] + ", " + row[1] + ", " + row[2] + ")", x.way(row[0], row[1], row[2]), NONE);
        }
        for (int voices : OTHER_VOICES) {
            Edge.due("way(" + voices + ", 0, 0)", x.way(voices, 0, 0), NONE);
            Edge.due("way(" + voices + ", -1, 0)", x.way(voices, -1, 0), NONE);
        }
        x.bounds(0, 0, 0);
        Edge.due("no ways", x.way(2, 0, 0), NONE);
    }

    /** Numbers that no way has when there are so many. */
    private static int[] beside(int ways) {
        return new int[] {-1, ways, ways + 1, 4500, Edge.LEAST, Edge.MOST};
    }

    private static void signs() {
        Edge.says(20, "THE FEWEST SIGNS of the k-th WAY (of two voices), as bits; NONE when there is none such.");
        OneLine x = bounded(TWO, "", 2, 0, 0);
        Edge.due("the last one", x.signs(1), 1);
        for (int k : beside(2)) {
            Edge.due("signs(" + k + ")", x.signs(k), NONE);
        }
        x.bounds(0, 0, 0);
        Edge.due("no ways", x.signs(0), NONE);
    }

    private static void like() {
        Edge.says(21, "How many WAYS (of two voices) are like the k-th in some signs (bits; itself, too); NONE when something can't be.");
        OneLine x = bounded(TWO, "", 1, 1, 15);
        int last = x.ways(2) - 1;
        int[] due = {71, 36, 24, 12, 36, 18, 12, 6};
        for (int signs = 0; signs < 8; signs++) {
            Edge.due("like(last, " + signs + ")", x.like(last, signs), due[signs]);
        }
        Edge.due("back", x.like(last, 8), 36);
        Edge.due("pace", x.like(last, 16), 24);
        Edge.due("all, itself alone", x.like(last, 31), 1);
        Edge.due("the leader counts nowhere", x.like(0, 1), 35);
        int[] others = {-1, 32, 63, Edge.LEAST, Edge.MOST};
        for (int signs : others) {
            Edge.due("like(0, " + signs + ")", x.like(0, signs), NONE);
        }
        for (int signs = 0; signs < 32; signs++) {
            likeByHand(signs);
        }
        for (int k : beside(71)) {
            Edge.due("like(" + k + ", 0)", x.like(k, 0), NONE);
            Edge.due("like(" + k + ", 31)", x.like(k, 31), NONE);
        }
    }

    /** Those that are like each other in some signs, by what follower() tells of them. */
    private static void likeByHand(int signs) {
        OneLine x = bounded("step 0 for 2; step 3 for 2;", "bad when gap = 1 or rise > 0 and climb > 0;", 1, 1, 15);
        int n = x.ways(2);
        int[][] parts = new int[n][5];
        OneLine other = new OneLine();
        for (int k = 0; k < n; k++) {
            for (int what = 0; what < 5; what++) {
                parts[k][what] = other.follower(x.way(2, k, 0), what);
            }
        }
        for (int k = 0; k < n; k++) {
            int due = 0;
            for (int i = 0; i < n; i++) {
                boolean same = true;
                for (int what = 0; what < 5; what++) {
                    same &= (signs >> what & 1) == 0 || parts[k][what] == parts[i][what];
                }
                due += same ? 1 : 0;
            }
            Edge.due("like(" + k + ", " + signs + ")", x.like(k, signs), due);
        }
        Edge.due("not all are ways", n > 10 && n < 71, true);
    }

    private static void means() {
        Edge.says(22, "How many WAYS a MOTTO MEANS (k NONE), or the k-th of these by its number among WAYS; NONE when there is none such.");
        OneLine x = bounded(TWO, "motto a when delay > 1; motto b when all; motto c when not all;", 3, 0, 0);
        Edge.due("a", x.means(0, NONE), 2);
        Edge.due("its first", x.means(0, 0), 1);
        Edge.due("its last", x.means(0, 1), 2);
        Edge.due("all", x.means(1, NONE), 3);
        Edge.due("all, the last", x.means(1, 2), 2);
        Edge.due("none", x.means(2, NONE), 0);
        Edge.due("none, the first", x.means(2, 0), NONE);
        int[] beyond = {2, 3, -2, Edge.LEAST, Edge.MOST};
        for (int k : beyond) {
            Edge.due("means(0, " + k + ")", x.means(0, k), NONE);
        }
        int[] others = {-1, 3, 6, Edge.LEAST, Edge.MOST};
        for (int motto : others) {
            Edge.due("means(" + motto + ", NONE)", x.means(motto, NONE), NONE);
            Edge.due("means(" + motto + ", 0)", x.means(motto, 0), NONE);
        }
        x.bounds(0, 0, 0);
        Edge.due("no ways", x.means(1, NONE), 0);
        Edge.due("no first", x.means(1, 0), NONE);
    }

    private static void mean() {
        Edge.says(23, "How many WAYS all of some MOTTOS (bits) mean; NONE when something can't be.");
        OneLine x = bounded(TWO, "", 3, 0, 0);
        Edge.due("no mottos", x.mean(0), 3);
        Edge.due("there is no first one", x.mean(1), NONE);
        Edge.book(x, "motto a when delay > 1; motto b when delay < 3;");
        int[] due = {3, 2, 2, 1};
        for (int bits = 0; bits < 4; bits++) {
            Edge.due("mean(" + bits + ")", x.mean(bits), due[bits]);
        }
        int[] others = {4, 5, 8, 63, -1, Edge.LEAST, Edge.MOST};
        for (int bits : others) {
            Edge.due("mean(" + bits + ")", x.mean(bits), NONE);
        }
        Edge.book(x, "motto a when all;motto b when all;motto c when all;motto d when all;motto e when all;motto f when delay = 2;");
        Edge.due("all six", x.mean(63), 1);
        Edge.due("no seventh", x.mean(64), NONE);
        x.bounds(0, 0, 0);
        Edge.due("no ways", x.mean(0), 0);
    }

    private static void mottos() {
        Edge.says(24, "THE FEWEST MOTTOS for the k-th WAY (that leave just it), as bits; NONE when there is none such.");
        OneLine x = bounded(TWO, "motto a when delay = 1; motto b when not delay = 3; motto c when delay > 1;", 3, 0, 0);
        Edge.due("a", x.mottos(0), 1);
        Edge.due("b and c", x.mottos(1), 6);
        Edge.due("no such set", x.mottos(2), NONE);
        for (int k : beside(3)) {
            Edge.due("mottos(" + k + ")", x.mottos(k), NONE);
        }
        x.bounds(0, 0, 0);
        Edge.due("no ways", x.mottos(0), NONE);
    }

    private static void common() {
        Edge.says(25, "The delay (what 0), high (1) that most WAYS have, the least of like ones; how many have it (2, 3).");
        commonIs(bounded(TWO, "", 2, 1, 0), 1, -1, 3, 3);
        commonIs(bounded(TWO, "", 0, 7, 0), 0, -7, 14, 1);
        commonIs(bounded(TWO, "", 24, 0, 0), 1, 0, 1, 24);
        commonIs(bounded(TWO, "", 0, 7, 1), 0, -7, 29, 2);
        commonIs(bounded(TWO, "bad when beat < 3 and under = 0;", 2, 7, 0), 2, -7, 15, 3);
        commonIs(bounded(TWO, "bad when gap < 7 or under = 1;", 1, 7, 0), 0, 7, 1, 2);
        commonIs(bounded(TWO, "bad when gap > 0;", 24, 7, 0), 2, 0, 15, 24);
        Edge.says(25, "NOTHING for others, or without WAYS.");
        OneLine x = bounded(TWO, "", 1, 0, 0);
        int[] others = {-1, 4, Edge.LEAST, Edge.MOST};
        for (int what : others) {
            Edge.due("common(" + what + ")", x.common(what), NO);
        }
        x.bounds(0, 0, 0);
        for (int what = 0; what < 4; what++) {
            Edge.due("without ways", x.common(what), NO);
        }
    }

    private static void commonIs(OneLine x, int... due) {
        for (int what = 0; what < 4; what++) {
            Edge.due("common(" + what + ")", x.common(what), due[what]);
        }
    }

    private static void over() {
        Edge.says(26, "The TICK in which all voices of the k-th WAY of n voices are over, THE LEADER, too; NONE when there is none such.");
        OneLine x = bounded("step 0 for 2; rest for 2;", "", 2, 0, 12);
        int[] due = {8, 4, 5, 9, 4, 6, 10, 4};
        for (int k = 0; k < 8; k++) {
            Edge.due("over(2, " + k + ")", x.over(2, k), due[k]);
        }
        Edge.due("85 and 86", x.over(3, 0), 8);
        Edge.due("the last pair", x.over(3, 27), 10);
        Edge.due("the last three", x.over(4, 55), 10);
        Edge.due("86 and the next two", x.over(4, 21), 9);
        for (int voices = 2; voices <= 4; voices++) {
            for (int k : beside(x.ways(voices))) {
                if (k < 0 || k >= x.ways(voices)) {
                    Edge.due("over(" + voices + ", " + k + ")", x.over(voices, k), NONE);
                }
            }
        }
        for (int voices : OTHER_VOICES) {
            Edge.due("over(" + voices + ", 0)", x.over(voices, 0), NONE);
            Edge.due("over(" + voices + ", -1)", x.over(voices, -1), NONE);
        }
        OneLine y = bounded("", "", 24, 0, 0);
        Edge.due("no notes", y.over(2, 23), 24);
    }

    private static void alike() {
        Edge.says(27, "The first WAY (of two voices) whose FOLLOWER sings in each TICK just what that of the k-th does, perhaps itself; NONE when there is none such.");
        alikeAre(bounded(TWO, "", 0, 0, 3), 0, 0, 0);
        alikeAre(bounded("step 0 for 2; step 0 for 2;", "", 0, 0, 3), 0, 0, 0);
        alikeAre(bounded("step 1 for 2; step 0 for 2;", "", 0, 0, 3), 0, 1, 2);
        alikeAre(bounded("step 1 for 2; step 0 for 2; step 1 for 2;", "", 0, 0, 3), 0, 1, 1);
        alikeAre(bounded("rest for 2; step 3 for 2;", "", 2, 0, 2), 0, 1, 2, 3, 4);
        alikeAre(bounded("rest for 2; step 3 for 2;", "", 4, 0, 2), 0, 1, 2, 3, 4, 5, 1, 7, 3);
        alikeAre(bounded("step 0 for 2; step 7 for 2;", "", 0, 0, 12), 0, 1);
        alikeAre(bounded("rest for 1; rest for 5;", "", 2, 1, 4), 0, 0, 0, 0, 0, 0, 0, 0, 0, 0, 0, 0, 0, 0, 0, 0, 0);
        OneLine y = bounded("rest for 2; step 3 for 2;", "", 1, 0, 8);
        Edge.due("86 sings in tick 1, 264 in 3 and 4, 266 in 2", y.unlike(), 3);
        for (int k : beside(3)) {
            Edge.due("alike(" + k + ")", y.alike(k), NONE);
        }
        y.bounds(0, 0, 0);
        Edge.due("no ways", y.alike(0), NONE);
    }

    private static void alikeAre(OneLine x, int... due) {
        Edge.due("ways", x.ways(2), due.length);
        for (int k = 0; k < due.length; k++) {
            Edge.due("alike(" + k + ")", x.alike(k), due[k]);
        }
    }

    private static void unlike() {
        Edge.says(28, "How many WAYS there are, if of such as sing alike just the first counts.");
        Edge.due("no ways", bounded(TWO, "", 0, 0, 0).unlike(), 0);
        Edge.due("one way", bounded(TWO, "", 1, 0, 0).unlike(), 1);
        Edge.due("all are silent", bounded("", "", 24, 7, 15).unlike(), 1);
        Edge.due("all are silent", bounded("rest for 2;", "", 24, 7, 15).unlike(), 1);
        Edge.due("each shape thrice by pace", bounded(TWO, "", 0, 0, 15).unlike(), 3);
        Edge.due("none alike", bounded("step 0 for 2; step 1 for 4;", "", 0, 0, 15).unlike(), 11);
        Edge.due("one note: delays, heights and paces", bounded(TWO, "", 24, 7, 15).unlike(), 25 * 15 * 3);
        Edge.due("those with a breach don't count", bounded(TWO, "bad when gap > 0;", 1, 1, 0).unlike(), 1);
    }

    private static void rule() {
        Edge.says(29, "How many FOLLOWERS within THE BOUNDS have their BREACH with THE LEADER by a RULE (without false),"
            + " or how many WAYS there would be without that RULE (true); NONE when there is none such.");
        OneLine x = bounded("step 0 for 2; step 1 for 2;", "bad when gap = 1 and beat = 2; bad when gap = 1; bad when gap = 2;", 0, 2, 0);
        int[] by = {0, 2, 2};
        int[] without = {0, 0, 2};
        for (int rule = 0; rule < 3; rule++) {
            Edge.due("rule(" + rule + ", false)", x.rule(rule, false), by[rule]);
            Edge.due("rule(" + rule + ", true)", x.rule(rule, true), without[rule]);
        }
        int[] others = {-1, 3, 12, Edge.LEAST, Edge.MOST};
        for (int rule : others) {
            Edge.due("rule(" + rule + ", false)", x.rule(rule, false), NONE);
            Edge.due("rule(" + rule + ", true)", x.rule(rule, true), NONE);
        }
        Edge.book(x, "bad when all; bad when all;");
        Edge.due("all by the first", x.rule(0, false), 4);
        Edge.due("none by the second", x.rule(1, false), 0);
        Edge.due("without the first the second is there", x.rule(0, true), 0);
        Edge.book(x, Edge.times(11, "bad when not all;") + "bad when all;");
        Edge.due("by the twelfth", x.rule(11, false), 4);
        Edge.due("without the twelfth", x.rule(11, true), 4);
        Edge.due("no thirteenth", x.rule(12, false), NONE);
        Edge.line(x, "step 0 for 1;");
        x.bounds(0, 1, 8);
        Edge.due("those that can't be have none", x.rule(11, false), 2);
        Edge.due("nor would they be ways", x.rule(11, true), 2);
        x.bounds(0, 0, 0);
        Edge.due("none within", x.rule(11, false), 0);
        Edge.due("none within", x.rule(11, true), 0);
    }

    private static void meant() {
        Edge.says(30, "How many WAYS of n voices all of whose FOLLOWERS a MOTTO MEANS; NONE when there are none such.");
        OneLine x = bounded(TWO, "motto a when delay > 1; motto b when all; motto c when not all;", 4, 0, 0);
        int[][] due = {{3, 4, 0}, {3, 6, 0}, {1, 4, 0}};
        for (int voices = 2; voices <= 4; voices++) {
            for (int motto = 0; motto < 3; motto++) {
                Edge.due("meant(" + voices + ", " + motto + ")", x.meant(voices, motto), due[voices - 2][motto]);
            }
        }
        int[] others = {-1, 3, 6, Edge.LEAST, Edge.MOST};
        for (int motto : others) {
            Edge.due("meant(2, " + motto + ")", x.meant(2, motto), NONE);
        }
        for (int voices : OTHER_VOICES) {
            Edge.due("meant(" + voices + ", 1)", x.meant(voices, 1), NONE);
        }
        OneLine y = bounded("", "motto a when delay = 13; motto b when all;", 13, 1, 0);
        Edge.due("two voices: all of them", y.meant(2, 0), 3);
        Edge.due("three voices: of the first 40", y.meant(3, 0), 1);
        Edge.due("all", y.meant(4, 1), 9880);
        y.bounds(0, 0, 0);
        Edge.due("no ways", y.meant(2, 1) + y.meant(3, 1) + y.meant(4, 1), 0);
    }
}
