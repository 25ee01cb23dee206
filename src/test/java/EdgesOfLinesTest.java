import java.math.BigInteger;
import java.util.ArrayList;
import java.util.List;

/** The boundary cases of rounds, of lines made, mended and drawn, and of promises 31 to 37. */
public final class EdgesOfLinesTest {
    private static final int NONE = Edge.NONE;
    private static final int LEADER = Edge.LEADER;
    private static final int[] NO_CODES = {-1, 4500, Edge.LEAST, Edge.MOST};
    private static final int UP = Edge.code(0, 1, 0, 0, 0);
    private static final int LATE = Edge.code(1, 0, 0, 0, 0);

    private EdgesOfLinesTest() {
    }

    public static void main(String[] args) {
        ringsOfNotes();
        ringsWithRests();
        ticksOfARound();
        round();
        madeLines();
        make();
        shortest();
        richLines();
        richest();
        wrongNotes();
        wrong();
        wrongAnew();
        change();
        draws();
        draw();
        Edge.finish(31, 37);
    }

    private static int code(int delay, int high, int mirror, int back, int pace) {
        return Edge.code(delay, high, mirror, back, pace);
    }

    /** The first tick that is broken in a round, if this is the only rule. */
    private static void roundBy(String line, int code, String test, int tick) {
        OneLine x = Edge.with(line, "bad when " + test + ";");
        Edge.due("round(" + code + ") of " + line + " by " + test, x.round(code), tick);
    }

    private static void ringsOfNotes() {
        Edge.says(Edge.TERMS, "(what was in the TICK ahead of the first of these is as if it had been so always, BEGINS by the number alone; last is 0)");
        String two = "step 0 for 2; step 1 for 2;";
        roundBy(two, LATE, "was = 1 and climb = 0 - 1 and rise = 0 and gap = 0", 1);
        roundBy(two, LATE, "rise = 1 and climb = 0 and was = 0 and gap = 1 and under = 1", 2);
        roundBy(two, LATE, "climb = 1 and was = 1 and gap = 0", 3);
        roundBy(two, LATE, "rise = 0 - 1 and under = 0", 4);
        roundBy(two, LATE, "was = 7", NONE);
        roundBy(two, LATE, "last = 1", NONE);
        roundBy(two, LATE, "last = 0", 1);
        roundBy(two, UP, "rise = 0 - 1 and climb = 0 - 1 and was = 1", 0);
        roundBy(two, UP, "rise = 1", 2);
        roundBy(two, code(0, 0, 0, 1, 0), "climb = 1 and rise = 0 - 1 and was = 1 and gap = 1", 0);
        roundBy(two, code(0, 0, 1, 0, 0), "gap = 2 and under = 1 and climb = 0 - 1", 2);
        roundBy("step 0 for 2;", LATE, "all", NONE);
        roundBy("step 0 for 16;", UP, "all", NONE);
        roundBy("step 3 for 1; step 3 for 1;", LATE, "all", 1);
        roundBy("step 3 for 2; step 3 for 2;", UP, "rise = 0 and climb = 0 and was = 1", 0);
        roundBy("step 3 for 2; step 3 for 2;", UP, "beat = 1 or beat = 3", NONE);
    }

    private static void ringsWithRests() {
        Edge.says(Edge.TERMS, "THE LEADER, and it from its delay on, sing without end (THE LINE again and again):");
        String half = "step 0 for 2; rest for 2;";
        roundBy(half, UP, "was = 7 and rise = 0 and climb = 0", 0);
        roundBy(half, UP, "was < 7", NONE);
        roundBy(half, code(2, 0, 0, 0, 0), "all", NONE);
        roundBy(half, LATE, "all", 1);
        roundBy(half, code(3, 0, 0, 0, 0), "all", 4);
        roundBy(half, code(4, 0, 0, 0, 0), "gap = 0 and was = 7", 4);
        roundBy("rest for 2; step 0 for 2;", code(0, 0, 0, 1, 0), "all", NONE);
        roundBy("rest for 2;", UP, "all", NONE);
        roundBy("rest for 1; step 4 for 1;", UP, "all", 1);
        roundBy("step 0 for 1; step 1 for 1;", code(2, 0, 0, 0, 0), "gap > 0", NONE);
        roundBy("step 0 for 1; step 1 for 1;", code(24, 0, 0, 0, 0), "gap = 0", 24);
        roundBy("step 0 for 1; step 1 for 1;", code(23, 0, 0, 0, 0), "gap = 1", 23);
    }

    private static void ticksOfARound() {
        Edge.says(Edge.TERMS, "of as many TICKS as THE LINE has, from delay on, the first that is BROKEN");
        String two = "step 0 for 2; step 1 for 2;";
        int[] due = {NONE, 1, 2, 3, 4, NONE, NONE, NONE, NONE, NONE, NONE, NONE};
        for (int beat = 0; beat < 12; beat++) {
            OneLine x = Edge.with(two, "measure 12; bad when beat = " + beat + ";");
            Edge.due("delay 1, beat " + beat, x.round(LATE), due[beat]);
        }
        OneLine x = Edge.with(two, "measure 3; bad when beat = 0;");
        Edge.due("delay 1, every third", x.round(LATE), 3);
        Edge.due("delay 5, every third", x.round(code(5, 0, 0, 0, 0)), 6);
        Edge.due("delay 24, every third", x.round(code(24, 0, 0, 0, 0)), 24);
        OneLine y = Edge.with(Edge.times(24, "step 1 for 4;"), "measure 11; bad when beat = 7 and rise = 0;");
        Edge.due("of the longest line", y.round(code(24, 0, 0, 0, 0)), 40);
        Edge.due("without a rule", Edge.with(two, "").round(LATE), NONE);
    }

    private static void round() {
        Edge.says(31, "A ROUND: the first TICK that is BROKEN; NONE without, when it can't be, or there are no notes.");
        OneLine x = Edge.with("step 0 for 2; step 1 for 2;", "bad when all;");
        Edge.due("delay 1", x.round(LATE), 1);
        Edge.due("half", x.round(LATE + 1), NONE);
        Edge.due("double", x.round(LATE + 2), NONE);
        Edge.due("half from the beginning", x.round(85), NONE);
        Edge.due("the leader", x.round(LEADER), NONE);
        for (int code : NO_CODES) {
            Edge.due("round(" + code + ")", x.round(code), NONE);
        }
        Edge.book(x, "bad when gap = 5;");
        Edge.due("without", x.round(LATE), NONE);
        Edge.book(x, "bad when all;");
        Edge.line(x, "");
        Edge.due("no notes", x.round(LATE), NONE);
        Edge.due("a new object", new OneLine().round(LATE), NONE);
        Edge.line(x, "step 0 for 1; step 1 for 1;");
        Edge.due("odd ticks do not matter", x.round(LATE), 1);
    }

    private static void lineIs(OneLine x, int... steps) {
        Edge.due("notes", x.has(0), steps.length);
        Edge.due("ticks", x.has(2), 2 * steps.length);
        for (int n = 0; n < steps.length; n++) {
            Edge.due("step " + n, x.note(n, 0), steps[n]);
            Edge.due("ticks " + n, x.note(n, 1), 2);
        }
    }

    private static void madeLines() {
        Edge.says(Edge.TERMS, "MADE for a FOLLOWER: n notes of 2 TICKS, steps 0 .. R, no two alike one behind the other;"
            + " the first by steps in their order with which it is one that can be, and has no BREACH with THE LEADER.");
        OneLine x = Edge.with("step 9 for 3;", "");
        Edge.due("without rules", x.make(UP, 6, 1), 1);
        lineIs(x, 0, 1, 0, 1, 0, 1);
        Edge.due("one note", x.make(UP, 1, 0), 1);
        lineIs(x, 0);
        Edge.due("two alike", x.make(UP, 2, 0), 0);
        Edge.line(x, "step 9 for 3;");
        Edge.due("double can be with 2 ticks", x.make(86, 2, 1), 1);
        lineIs(x, 0, 1);
        Edge.book(x, "bad when not rise = 0 - 1 and was < 7;");
        Edge.due("down by ones", x.make(UP, 5, 4), 1);
        lineIs(x, 4, 3, 2, 1, 0);
        Edge.due("no six", x.make(UP, 6, 4), 0);
        Edge.due("no five within 3", x.make(UP, 5, 3), 0);
        lineIs(x, 4, 3, 2, 1, 0);
        Edge.book(x, "bad when rise < 4 and was < 7;");
        Edge.due("up by fours", x.make(UP, 2, 4), 1);
        lineIs(x, 0, 4);
        Edge.due("no three", x.make(UP, 3, 4), 0);
        Edge.book(x, "bad when beat = 0 and was < 7 and rise < 3;");
        Edge.due("the third note is far above the second", x.make(UP, 6, 4), 1);
        lineIs(x, 0, 1, 4, 0, 3, 0);
        Edge.book(x, "bad when gap = 0;");
        Edge.due("two ahead is another step", x.make(code(4, 0, 0, 0, 0), 5, 2), 1);
        lineIs(x, 0, 1, 2, 0, 1);
    }

    private static void make() {
        Edge.says(32, "MADE for a FOLLOWER, of n notes (1 .. 6), R 0 .. 4: THE LINE is it: 1; 0 without one (it stays); NONE when something can't be.");
        OneLine x = Edge.with("step 9 for 3;", "");
        for (int n = 1; n <= 6; n++) {
            for (int range = 0; range <= 4; range++) {
                int due = n == 1 || range > 0 ? 1 : 0;
                Edge.due("make(" + n + ", " + range + ")", x.make(LATE, n, range), due);
            }
        }
        Edge.line(x, "step 9 for 3; rest for 1;");
        Edge.book(x, "bad when all;");
        Edge.due("without one", x.make(UP, 3, 4), 0);
        Edge.due("it stays", x.has(0) * 100 + x.has(2) * 10 + x.note(0, 0), 249);
        Edge.book(x, "");
        int[][] none = {{UP, 0, 2}, {UP, 7, 2}, {UP, -1, 2}, {UP, Edge.LEAST, 2}, {UP, Edge.MOST, 2}, {UP, 2, -1}, {UP, 2, 5},
            {UP, 2, Edge.LEAST}, {UP, 2, Edge.MOST}, {LEADER, 2, 2}, {-1, 2, 2}, {4500, 2, 2}, {Edge.LEAST, 2, 2}, {Edge.MOST, 2, 2}};
        for (int[] row : none) {
            Edge.due("make(" + row[0] + ", " + row[1] + ", " + row[2] + ")", x.make(row[0], row[1], row[2]), NONE);
        }
        Edge.due("it stays", x.has(0) * 100 + x.has(2) * 10 + x.note(0, 0), 249);
        Edge.due("the least code", x.make(0, 2, 1), 1);
        Edge.due("the greatest code", x.make(4499, 2, 1), 1);
    }

    private static void shortest() {
        Edge.says(33, "The least n (2 .. 6) of which there is one MADE; NONE without, or when something can't be.");
        OneLine x = Edge.with("step 9 for 3;", "");
        for (int range = 0; range <= 4; range++) {
            Edge.due("never one note", x.shortest(LATE, range), range == 0 ? NONE : 2);
        }
        // with delay 1 the last note of n begins in tick 2 n - 1, the last one of the leader
        int[][] rows = {{1, 2}, {3, 2}, {4, 3}, {5, 3}, {6, 4}, {7, 4}, {9, 5}, {11, 6}, {12, NONE}};
        for (int[] row : rows) {
            Edge.book(x, "measure 12; bad when last = 1 and beat < " + row[0] + ";");
            Edge.due("last from beat " + row[0] + " on", x.shortest(LATE, 1), row[1]);
        }
        Edge.book(x, "");
        int[] ranges = {-1, 5, Edge.LEAST, Edge.MOST};
        for (int range : ranges) {
            Edge.due("shortest(" + LATE + ", " + range + ")", x.shortest(LATE, range), NONE);
        }
        for (int code : NO_CODES) {
            Edge.due("shortest(" + code + ", 1)", x.shortest(code, 1), NONE);
        }
        Edge.due("the leader", x.shortest(LEADER, 1), NONE);
        Edge.due("the line stays", x.has(0) * 100 + x.has(2) * 10 + x.note(0, 0), 139);
    }

    /** All lines of n notes on the steps 0 .. range, no two alike one behind the other, in their order. */
    private static List<int[]> lines(int n, int range) {
        List<int[]> found = new ArrayList<>();
        for (int number = 0; number < Math.pow(range + 1, n); number++) {
            int[] steps = new int[n];
            int rest = number;
            for (int i = n - 1; i >= 0; i--) {
                steps[i] = rest % (range + 1);
                rest /= range + 1;
            }
            boolean unlike = true;
            for (int i = 1; i < n; i++) {
                unlike &= steps[i] != steps[i - 1];
            }
            if (unlike) {
                found.add(steps);
            }
        }
        return found;
    }

    private static int waysOf(int[] steps, String book, int[] bounds) {
        StringBuilder text = new StringBuilder();
        for (int step : steps) {
            text.append("step ").append(step).append(" for 2;");
        }
        OneLine x = Edge.with(text.toString(), book);
        x.bounds(bounds[0], bounds[1], bounds[2]);
        return x.ways(2);
    }

    private static void richLines() {
        Edge.says(34, "no two alike one behind the other, the first with the most WAYS (of two voices, by THE BOUNDS): how many these are (what 0; THE LINE stays),"
            + " or THE LINE is it then, how many notes (1).");
        String[] books = {"", "bad when sort = 1 or sort = 6;", "bad when gap = 0;", "bad when rise > 0 and climb > 0; bad when gap = 2;",
            "bad when last = 1 and gap = 1 or beat = 2 and gap = 0;", "bad when all;"};
        int[][] bounds = {{2, 1, 0}, {4, 0, 3}, {0, 0, 0}, {1, 2, 15}};
        for (int i = 0; i < books.length; i++) {
            int[] within = bounds[i % bounds.length];
            for (int n = 1; n <= 4; n++) {
                int range = 2;
                int most = NONE;
                int[] best = null;
                for (int[] steps : lines(n, range)) {
                    int ways = waysOf(steps, books[i], within);
                    if (ways > most) {
                        most = ways;
                        best = steps;
                    }
                }
                OneLine x = Edge.with("step 9 for 3;", books[i]);
                x.bounds(within[0], within[1], within[2]);
                Edge.due("richest(" + n + ", 2, 0) by " + books[i], x.richest(n, range, 0), most);
                Edge.due("the line stays", x.has(0) * 100 + x.has(2) * 10 + x.note(0, 0), 139);
                Edge.due("richest(" + n + ", 2, 1) by " + books[i], x.richest(n, range, 1), n);
                lineIs(x, best);
                Edge.due("its ways", x.ways(2), most);
            }
        }
    }

    private static void richest() {
        Edge.says(34, "Of lines of n notes (1 .. 4) of 2 TICKS, steps 0 .. R (0 .. 2),");
        OneLine x = Edge.with("step 9 for 3;", "");
        x.bounds(1, 1, 0);
        for (int n = 1; n <= 4; n++) {
            Edge.due("on one step, " + n, x.richest(n, 0, 0), n == 1 ? 5 : NONE);
            Edge.due("on two steps, " + n, x.richest(n, 1, 0), 5);
        }
        Edge.says(34, "NONE when there is none such, or something can't be.");
        Edge.due("two on one step", x.richest(2, 0, 1), NONE);
        Edge.due("four on one step", x.richest(4, 0, 1), NONE);
        int[][] none = {{0, 1, 0}, {5, 1, 0}, {-1, 1, 0}, {Edge.LEAST, 1, 0}, {Edge.MOST, 1, 0}, {2, -1, 0}, {2, 3, 0}, {2, Edge.LEAST, 0},
            {2, Edge.MOST, 0}, {2, 1, -1}, {2, 1, 2}, {2, 1, Edge.LEAST}, {2, 1, Edge.MOST}, {5, 1, 1}, {2, 3, 1}};
        for (int[] row : none) {
            Edge.due("richest(" + row[0] + ", " + row[1] + ", " + row[2] + ")", x.richest(row[0], row[1], row[2]), NONE);
        }
        Edge.due("the line stays", x.has(0) * 100 + x.has(2) * 10 + x.note(0, 0), 139);
        Edge.due("its ways are its own", x.ways(2), 5);
        x.bounds(0, 0, 0);
        Edge.due("without ways", x.richest(3, 2, 0), 0);
        Edge.due("the first of all", x.richest(3, 2, 1), 3);
        lineIs(x, 0, 1, 0);
    }

    /** All wrong notes, each tried on an object of its own. */
    private static List<Integer> mended(int[] steps, String book, int code) {
        List<Integer> found = new ArrayList<>();
        for (int n = 0; n < steps.length; n++) {
            for (int step = 0; step <= 28; step++) {
                if (steps[n] == NONE || steps[n] == step) {
                    continue;
                }
                int[] other = steps.clone();
                other[n] = step;
                if (Edge.with(textOf(other), book).breach(LEADER, code, 0) == NONE) {
                    found.add(100 * n + step);
                }
            }
        }
        return found;
    }

    private static String textOf(int[] steps) {
        StringBuilder text = new StringBuilder();
        for (int step : steps) {
            text.append(step == NONE ? "rest" : "step " + step).append(" for 2;");
        }
        return text.toString();
    }

    private static void wrongNotes() {
        Edge.says(Edge.TERMS, "WRONG NOTES for a FOLLOWER that has one: notes and other steps 0 .. 28 with which, each alone changed so, it has none.");
        int[][] lines = {{0, 1}, {4, 4, 5}, {NONE, 3, 4}, {28, 0, 7}, {3, NONE, 4, 5}};
        int[] codes = {code(2, 0, 0, 0, 0), code(0, 0, 1, 0, 0), code(1, 2, 1, 1, 0), code(2, 0, 0, 0, 2), code(0, 0, 0, 0, 1)};
        String[] books = {"bad when sort = 1 or sort = 6;", "bad when gap < 20;", "bad when was = 7 and gap < 3 or rise > 0;"};
        int tried = 0;
        for (int[] steps : lines) {
            for (int code : codes) {
                for (String book : books) {
                    OneLine x = Edge.with(textOf(steps), book);
                    if (x.breach(LEADER, code, 0) == NONE) {
                        Edge.due("it has no breach", x.wrong(code, NONE), NONE);
                        continue;
                    }
                    tried++;
                    List<Integer> due = mended(steps, book, code);
                    Edge.due("wrong(" + code + ", NONE) of " + textOf(steps) + " by " + book, x.wrong(code, NONE), due.size());
                    for (int k = 0; k < due.size(); k++) {
                        Edge.due("wrong(" + code + ", " + k + ")", x.wrong(code, k), due.get(k));
                    }
                    Edge.due("no more", x.wrong(code, due.size()), NONE);
                }
            }
        }
        Edge.due("many have one", tried > 40, true);
    }

    private static void wrong() {
        Edge.says(35, "How many WRONG NOTES there are (k NONE), or the k-th by notes, then steps: 100 times the note and the step;");
        int code = code(2, 0, 0, 0, 0);
        OneLine x = Edge.with("step 0 for 2; step 5 for 2;", "bad when gap < 28;");
        Edge.due("one alone", x.wrong(code, NONE), 1);
        Edge.due("the greatest step", x.wrong(code, 0), 128);
        Edge.line(x, "step 5 for 2; step 28 for 2;");
        Edge.due("one alone", x.wrong(code, NONE), 1);
        Edge.due("the least step of the first note", x.wrong(code, 0), 0);
        Edge.says(35, "NONE when there is none such, when it can't be, or has no BREACH.");
        int[] others = {1, -2, 672, Edge.LEAST, Edge.MOST};
        for (int k : others) {
            Edge.due("wrong(" + code + ", " + k + ")", x.wrong(code, k), NONE);
        }
        Edge.due("no breach", x.wrong(code(4, 0, 0, 0, 0), NONE), NONE);
        Edge.due("no breach", x.wrong(code(4, 0, 0, 0, 0), 0), NONE);
        Edge.due("the leader", x.wrong(LEADER, NONE), NONE);
        for (int none : NO_CODES) {
            Edge.due("wrong(" + none + ", NONE)", x.wrong(none, NONE), NONE);
            Edge.due("wrong(" + none + ", 0)", x.wrong(none, 0), NONE);
        }
        Edge.book(x, "bad when all;");
        Edge.due("none mends it", x.wrong(code, NONE), 0);
        Edge.due("there is no first", x.wrong(code, 0), NONE);
        Edge.line(x, "step 0 for 1; step 1 for 1;");
        Edge.due("it can't be", x.wrong(86, NONE), NONE);
        Edge.line(x, "");
        Edge.due("no notes, no breach", x.wrong(code, NONE), NONE);
    }

    /** What was told of one line, book or follower is not told of another. */
    private static void wrongAnew() {
        Edge.says(35, "or has no BREACH.");
        int code = code(2, 0, 0, 0, 0);
        OneLine x = Edge.with("step 0 for 2; step 1 for 2;", "bad when sort = 1 or sort = 6;");
        Edge.due("41", x.wrong(code, NONE), 41);
        Edge.due("another follower", x.wrong(UP, NONE), 0);
        Edge.due("the first again", x.wrong(code, NONE), 41);
        x.change(1, 2);
        Edge.due("mended", x.wrong(code, NONE), NONE);
        x.change(1, 6);
        Edge.due("wrong again", x.wrong(code, NONE), 41);
        Edge.book(x, "");
        Edge.due("no rules", x.wrong(code, NONE), NONE);
        Edge.book(x, "bad when gap = 6;");
        Edge.due("one step is bad", x.wrong(code, NONE), 27 + 28);
        x.bounds(1, 1, 1);
        Edge.due("bounds do not matter", x.wrong(code, NONE), 27 + 28);
        x.draw(1, 0, 1);
        Edge.due("one note", x.wrong(code, NONE), NONE);
        Edge.line(x, "step 0 for 2; step 6 for 2;");
        Edge.due("the line again", x.wrong(code, NONE), 27 + 28);
        Edge.due("another is made", x.make(UP, 2, 1), 1);
        Edge.due("without a breach", x.wrong(code, NONE), NONE);
    }

    private static void change() {
        Edge.says(36, "A note has this step (0 .. 28; it may be a rest): what it had; NONE when something can't be; -2 when it was a rest.");
        OneLine x = Edge.with("rest for 3; step 5 for 2; rest for 1;", "bad when gap = 1;");
        Edge.due("to 0", x.change(1, 0), 5);
        Edge.due("to 28", x.change(1, 28), 0);
        Edge.due("to itself", x.change(1, 28), 28);
        Edge.due("a rest at the end", x.change(2, 7), -2);
        Edge.due("it has it", x.note(2, 0), 7);
        Edge.due("it was none any more", x.change(2, 8), 7);
        Edge.due("a rest fewer", x.has(1), 1);
        Edge.due("the first step is still", x.has(6), 28);
        Edge.due("the first rest", x.change(0, 3), -2);
        Edge.due("the first step", x.has(6), 3);
        Edge.due("ticks stay", x.note(0, 1) * 100 + x.note(1, 1) * 10 + x.note(2, 1), 321);
        int[][] none = {{-1, 0}, {3, 0}, {24, 0}, {Edge.LEAST, 0}, {Edge.MOST, 0}, {0, -1}, {0, 29}, {0, Edge.LEAST}, {0, Edge.MOST}, {0, 255}};
        for (int[] row : none) {
            Edge.due("change(" + row[0] + ", " + row[1] + ")", x.change(row[0], row[1]), NONE);
        }
        Edge.due("all stays", x.note(0, 0) * 10000 + x.note(1, 0) * 100 + x.note(2, 0), 32808);
        Edge.line(x, "");
        Edge.due("no notes", x.change(0, 0), NONE);
        Edge.line(x, "step 0 for 2; step 2 for 2;");
        x.bounds(2, 0, 0);
        Edge.due("ways", x.ways(2), 2);
        x.change(1, 1);
        Edge.due("ways of the changed line", x.ways(2), 0);
        Edge.due("the book is the same", x.has(3), 1);
    }

    private static void draws() {
        Edge.says(Edge.TERMS, "A DRAW of m: x (the seed) becomes (1103515245 x + 12345) mod 2 to the 31; floor(x / 64) mod m."
            + " A LINE DRAWN of n notes: for each a DRAW of (R and 1), its step, and a DRAW of 4: 1, 2, 2 or 4 TICKS.");
        int[] seeds = {0, 1, 2, -1, 12345, 1 << 30, Edge.MOST, Edge.LEAST, Edge.LEAST + 1, -1103515245};
        int[] ranges = {0, 1, 7, 28};
        for (int seed : seeds) {
            for (int range : ranges) {
                drawnIs(seed, range);
            }
        }
    }

    private static void drawnIs(int seed, int range) {
        OneLine x = new OneLine();
        int total = x.draw(24, range, seed);
        BigInteger drawn = BigInteger.valueOf(seed);
        int sum = 0;
        for (int n = 0; n < 24; n++) {
            drawn = next(drawn);
            Edge.due("step " + n + " by " + seed, x.note(n, 0), drawn.shiftRight(6).intValue() % (range + 1));
            drawn = next(drawn);
            Edge.due("ticks " + n + " by " + seed, x.note(n, 1), new int[] {1, 2, 2, 4}[drawn.shiftRight(6).intValue() % 4]);
            sum += x.note(n, 1);
        }
        Edge.due("ticks of all by " + seed, total, sum);
        Edge.due("has(2)", x.has(2), sum);
    }

    private static BigInteger next(BigInteger x) {
        return x.multiply(BigInteger.valueOf(1103515245)).add(BigInteger.valueOf(12345)).mod(BigInteger.ONE.shiftLeft(31));
    }

    private static void draw() {
        Edge.says(37, "A LINE DRAWN of n (1 .. 24), R 0 .. 28, is THE LINE: its TICKS; NONE when something can't be.");
        OneLine x = Edge.with("rest for 1; step 2 for 1;", "measure 3; bad when gap = 1;");
        x.bounds(2, 2, 2);
        for (int n = 1; n <= 24; n++) {
            int ticks = x.draw(n, 28, 7);
            Edge.due("ticks of " + n, ticks, x.has(2));
            Edge.due("notes", x.has(0), n);
            Edge.due("no rests", x.has(1), 0);
        }
        Edge.due("book and bounds stay", x.has(5) * 100 + x.has(3) * 10 + x.has(7), 312);
        Edge.line(x, "rest for 1; step 2 for 1;");
        int[][] none = {{0, 5}, {25, 5}, {-1, 5}, {Edge.LEAST, 5}, {Edge.MOST, 5}, {3, -1}, {3, 29}, {3, Edge.LEAST}, {3, Edge.MOST}};
        for (int[] row : none) {
            Edge.due("draw(" + row[0] + ", " + row[1] + ", 1)", x.draw(row[0], row[1], 1), NONE);
        }
        Edge.due("the line stays", x.has(0) * 100 + x.has(1) * 10 + x.has(2), 212);
    }
}
