/** The boundary cases of followers and of two that sing, and of promises 11 to 17. */
public final class EdgesOfFollowersTest {
    private static final int NONE = Edge.NONE;
    private static final int NO = Edge.NOTHING;
    private static final int LEADER = Edge.LEADER;
    /** Those that are no CODES. */
    private static final int[] NO_CODES = {-1, 4500, -84, 4584, Edge.LEAST, Edge.MOST};
    /** A fall, a rest, the deepest fall. */
    private static final String FALLS = "step 5 for 1; step 1 for 1; rest for 1; step 28 for 1; step 0 for 1;";

    private EdgesOfFollowersTest() {
    }

    public static void main(String[] args) {
        codes();
        paces();
        backwards();
        mirrored();
        doublePace();
        silence();
        beginnings();
        order();
        firstRule();
        gaps();
        beats();
        movements();
        lasts();
        code();
        follower();
        sings();
        breach();
        together();
        broken();
        span();
        Edge.finish(11, 17);
    }

    private static int code(int delay, int high, int mirror, int back, int pace) {
        return Edge.code(delay, high, mirror, back, pace);
    }

    /** The tick of the breach with the leader, if this is the only rule. */
    private static void breachBy(OneLine x, int code, String test, int tick) {
        Edge.due("the book", Edge.book(x, "bad when " + test + ";"), 1);
        Edge.due("breach(84, " + code + ", 0) by " + test, x.breach(LEADER, code, 0), tick);
    }

    /** All ticks that are broken for the leader and a follower, if this is the only rule. */
    private static void brokenBy(OneLine x, int code, String test, int... ticks) {
        Edge.due("the book", Edge.book(x, "bad when " + test + ";"), 1);
        Edge.due("how many by " + test, x.together(LEADER, code, 1), ticks.length);
        for (int k = 0; k < ticks.length; k++) {
            Edge.due("broken " + k + " by " + test, x.broken(LEADER, code, k), 100 * ticks[k]);
        }
        Edge.due("no more by " + test, x.broken(LEADER, code, ticks.length), NONE);
    }

    private static void codes() {
        Edge.says(Edge.TERMS, "A FOLLOWER: delay 0 .. 24, high -7 .. 7, mirror, back 0 or 1, pace 0 .. 2. Its CODE: (((delay times 15,"
            + " and high and 7) times 2, and mirror) times 2, and back) times 3, and pace.");
        int next = 0;
        for (int delay = 0; delay <= 24; delay++) {
            for (int high = -7; high <= 7; high++) {
                OneLine x = new OneLine();
                for (int kind = 0; kind < 12; kind++) {
                    int[] parts = {delay, high, kind / 6, kind / 3 % 2, kind % 3};
                    Edge.due("code", x.code(delay, high, kind / 6, kind / 3 % 2, kind % 3), next);
                    for (int what = 0; what < 5; what++) {
                        Edge.due("follower(" + next + ", " + what + ")", x.follower(next, what), parts[what]);
                    }
                    next++;
                }
            }
        }
        Edge.due("so many", next, 4500);
        Edge.says(Edge.TERMS, "THE LEADER is delay 0, high 0, all else 0 (CODE 84).");
        OneLine x = Edge.with("step 3 for 2; step 4 for 1;", "");
        Edge.due("its code", x.code(0, 0, 0, 0, 0), 84);
        Edge.song(x, 84, 0, 3, 3, 4, NO);
    }

    private static void paces() {
        Edge.says(Edge.TERMS, "It sings from TICK delay on: in its u-th TICK (u from 0 on) what THE LINE has in TICK i: pace 0: i is u;"
            + " 1 (half as fast): floor(u / 2); 2 (twice as fast): 2 u; it is over when i is not below all TICKS.");
        OneLine x = Edge.with("step 1 for 2; step 2 for 4;", "");
        Edge.song(x, code(0, 0, 0, 0, 0), 0, 1, 1, 2, 2, 2, 2, NO, NO);
        Edge.song(x, code(1, 0, 0, 0, 0), 0, NO, 1, 1, 2, 2, 2, 2, NO);
        Edge.song(x, code(0, 0, 0, 0, 1), 0, 1, 1, 1, 1, 2, 2, 2, 2, 2, 2, 2, 2, NO, NO);
        Edge.song(x, code(3, 0, 0, 0, 1), 2, NO, 1, 1, 1, 1, 2, 2, 2, 2, 2, 2, 2, 2, NO);
        Edge.song(x, code(0, 0, 0, 0, 2), 0, 1, 2, 2, NO, NO);
        Edge.song(x, code(24, 0, 0, 0, 2), 23, NO, 1, 2, 2, NO);
        Edge.due("over", x.follower(code(24, 0, 0, 0, 0), 6), 30);
        Edge.due("over at half the pace", x.follower(code(24, 0, 0, 0, 1), 6), 36);
        Edge.due("over at double", x.follower(code(24, 0, 0, 0, 2), 6), 27);
        Edge.due("the leader is over", x.follower(84, 6), 6);
        Edge.line(x, "step 1 for 1; step 2 for 1;");
        Edge.song(x, code(0, 0, 0, 0, 1), 0, 1, 1, 2, 2, NO);
        Edge.line(x, "step 1 for 2; rest for 2;");
        Edge.due("over behind its rests, too", x.follower(code(1, 0, 0, 0, 1), 6), 9);
    }

    private static void backwards() {
        Edge.says(Edge.TERMS, "back 1: what stands at all TICKS less 1 less i.");
        OneLine x = Edge.with("step 0 for 2; step 1 for 4;", "");
        Edge.song(x, code(0, 0, 0, 1, 0), 0, 1, 1, 1, 1, 0, 0, NO);
        Edge.song(x, code(1, 0, 0, 1, 1), 0, NO, 1, 1, 1, 1, 1, 1, 1, 1, 0, 0, 0, 0, NO);
        Edge.song(x, code(2, 0, 0, 1, 2), 0, NO, NO, 1, 1, 0, NO);
        Edge.line(x, "step 0 for 1; step 1 for 2;");
        Edge.song(x, code(0, 0, 0, 1, 1), 0, 1, 1, 1, 1, 0, 0, NO);
        Edge.line(x, "step 9 for 1;");
        Edge.song(x, code(0, 0, 0, 1, 0), 0, 9, NO);
        Edge.line(x, "rest for 1; step 9 for 1;");
        Edge.song(x, code(0, 0, 0, 1, 0), 0, 9, NO, NO);
    }

    private static void mirrored() {
        Edge.says(Edge.TERMS, "mirror 1: for step s twice the first step in THE LINE less s. All steps are high more.");
        OneLine x = Edge.with("rest for 1; step 3 for 1; step 5 for 1; step 0 for 1;", "");
        Edge.song(x, code(0, 0, 1, 0, 0), 0, NO, 3, 1, 6, NO);
        Edge.song(x, code(0, 7, 1, 0, 0), 0, NO, 10, 8, 13, NO);
        Edge.song(x, code(0, -7, 1, 0, 0), 0, NO, -4, -6, -1, NO);
        Edge.song(x, code(0, 0, 1, 1, 0), 0, 6, 1, 3, NO, NO);
        Edge.song(x, code(0, -7, 0, 0, 0), 0, NO, -4, -2, -7, NO);
        x.change(0, 10);
        Edge.song(x, code(0, 0, 1, 0, 0), 0, 10, 17, 15, 20, NO);
        Edge.line(x, "step 28 for 1; step 0 for 1;");
        Edge.song(x, code(0, 7, 1, 0, 0), 0, 35, 63, NO);
        Edge.line(x, "step 0 for 1; step 28 for 1;");
        Edge.song(x, code(0, -7, 1, 0, 0), 0, -7, -35, NO);
    }

    private static void doublePace() {
        Edge.says(Edge.TERMS, "With pace 2 it CAN'T BE, if some note or rest has odd TICKS.");
        OneLine x = new OneLine();
        Edge.due("no notes", x.follower(code(0, 0, 0, 0, 2), 5), 1);
        String[] even = {"step 1 for 2;", "rest for 16;", "step 1 for 2; rest for 4; step 2 for 16;"};
        String[] odd = {"step 1 for 1;", "rest for 1;", "step 1 for 1; step 1 for 1;", "step 1 for 2; rest for 15;",
            "rest for 1; rest for 1; step 1 for 2;", "step 1 for 16; step 1 for 3;"};
        for (String text : even) {
            Edge.due("the line", Edge.line(x, text) > 0, true);
            Edge.due("it can be with " + text, x.follower(code(3, 2, 1, 1, 2), 5), 1);
        }
        for (String text : odd) {
            Edge.due("the line", Edge.line(x, text) > 0, true);
            for (int kind = 0; kind < 4; kind++) {
                Edge.due("it can't be with " + text, x.follower(code(3, 2, kind / 2, kind % 2, 2), 5), 0);
                Edge.due("half can be with " + text, x.follower(code(3, 2, kind / 2, kind % 2, 1), 5), 1);
                Edge.due("pace 0 can be with " + text, x.follower(code(3, 2, kind / 2, kind % 2, 0), 5), 1);
            }
        }
        Edge.line(x, "step 1 for 2;");
        Edge.due("an even line again", x.follower(code(0, 0, 0, 0, 2), 5), 1);
    }

    private static void silence() {
        Edge.says(Edge.TERMS, "In a rest, ahead and behind, it is silent.");
        OneLine x = Edge.with("rest for 1; step 0 for 2; rest for 1; step 0 for 1; rest for 1;", "");
        Edge.song(x, 84, 0, NO, 0, 0, NO, 0, NO, NO);
        Edge.song(x, code(2, 0, 0, 0, 0), 0, NO, NO, NO, 0, 0, NO, 0, NO, NO);
        Edge.line(x, "rest for 3;");
        Edge.song(x, 84, 0, NO, NO, NO, NO);
        Edge.line(x, "");
        Edge.song(x, 84, 0, NO, NO);
    }

    private static void beginnings() {
        Edge.says(Edge.TERMS, "A note of it BEGINS in a TICK in which it sings, if it is the first one, or another note (by its number) than in the TICK ahead.");
        OneLine x = Edge.with("step 4 for 4;", "");
        brokenBy(x, code(0, 1, 0, 0, 0), "all", 0);
        brokenBy(x, code(1, 0, 0, 0, 0), "all", 1);
        brokenBy(x, code(3, 0, 0, 0, 0), "all", 3);
        brokenBy(x, code(4, 0, 0, 0, 0), "all");
        Edge.line(x, "step 4 for 2; step 4 for 2;");
        brokenBy(x, code(0, 1, 0, 0, 0), "all", 0, 2);
        brokenBy(x, code(1, 0, 0, 0, 0), "all", 1, 2, 3);
        brokenBy(x, code(0, 0, 0, 1, 0), "all", 0, 2);
        brokenBy(x, code(0, 0, 0, 0, 2), "all", 0, 1);
        Edge.line(x, "step 4 for 1; rest for 1; step 4 for 1;");
        brokenBy(x, code(0, 1, 0, 0, 0), "all", 0, 2);
        Edge.line(x, "step 1 for 1; step 1 for 1;");
        brokenBy(x, code(0, 0, 0, 0, 1), "all", 0, 1);
        brokenBy(x, code(1, 0, 0, 0, 1), "all", 1);
    }

    private static void order() {
        Edge.says(Edge.TERMS, "TWO that sing, the first one having the lesser CODE, THE LEADER ahead of all:");
        OneLine x = Edge.with("step 4 for 2;", "bad when under = 1;");
        int low = code(0, -1, 0, 0, 0);
        int high = code(0, 1, 0, 0, 0);
        int late = code(1, 0, 0, 0, 0);
        Edge.due("a lesser code is behind the leader", x.breach(low, LEADER, 0), 0);
        Edge.due("in whatever order they are told", x.breach(LEADER, low, 0), 0);
        Edge.due("a greater one, too", x.breach(high, LEADER, 0), NONE);
        Edge.due("the lesser of two others is ahead", x.breach(low, high, 0), NONE);
        Edge.due("in whatever order they are told", x.breach(high, low, 0), NONE);
        Edge.due("the later one is below", x.breach(late, high, 0), 1);
        Edge.due("the later one is above", x.breach(late, low, 0), NONE);
        Edge.book(x, "bad when rise = 3;");
        Edge.line(x, "step 0 for 1; step 3 for 1; step 3 for 1;");
        Edge.due("rise is the leader's", x.breach(low, LEADER, 0), 1);
        Edge.due("rise is the lesser code's", x.breach(late, low, 0), 1);
        Edge.book(x, "bad when climb = 3;");
        Edge.due("climb is the greater code's", x.breach(late, low, 0), 2);
    }

    private static void firstRule() {
        Edge.says(Edge.TERMS, "a TICK t in which both sing and a note of one BEGINS is BROKEN by the first RULE whose TEST holds:");
        OneLine x = Edge.with("step 4 for 4; step 5 for 2;", "bad when beat = 2; bad when beat = 0; bad when all;");
        int code = code(2, 0, 0, 0, 0);
        Edge.due("the first one of all", x.broken(LEADER, code, 0), 200);
        Edge.due("the second", x.broken(LEADER, code, 1), 401);
        Edge.due("no more", x.broken(LEADER, code, 2), NONE);
        Edge.book(x, Edge.times(11, "bad when gap = 99;") + "bad when all;");
        Edge.due("the twelfth", x.broken(LEADER, code, 0), 211);
        Edge.due("the twelfth", x.breach(LEADER, code, 1), 11);
        Edge.book(x, "");
        Edge.due("no rules", x.breach(LEADER, code, 0), NONE);
        Edge.says(Edge.TERMS, "Their BREACH is the first TICK that is BROKEN.");
        Edge.book(x, "bad when beat = 0; bad when beat = 2;");
        Edge.due("its tick", x.breach(LEADER, code, 0), 2);
        Edge.due("by a later rule", x.breach(LEADER, code, 1), 1);
    }

    private static void gaps() {
        Edge.says(Edge.TERMS, "gap: how many steps they are apart; sort: gap modulo 7; under: 1, if the second one is below the first, else 0;");
        OneLine x = Edge.with("step 9 for 2;", "");
        for (int high = -7; high <= 7; high++) {
            int code = code(1, high, 0, 0, 0);
            int gap = Math.abs(high);
            breachBy(x, code, "gap = " + gap + " and sort = " + gap % 7 + " and under = " + (high < 0 ? 1 : 0), 1);
            breachBy(x, code, "not gap = " + gap + " or not sort = " + gap % 7 + " or under = " + (high < 0 ? 0 : 1), NONE);
        }
        Edge.line(x, "step 28 for 1; step 0 for 1;");
        int low = code(0, -7, 0, 0, 0);
        int high = code(0, 7, 1, 0, 0);
        Edge.book(x, "bad when gap = 70 and sort = 0 and under = 0 and rise = 0 - 28 and climb = 28 and was = 0 and last = 1;");
        Edge.due("as far apart as can be", x.breach(high, low, 0), 1);
        Edge.due("so many steps", x.together(high, low, 2), 70);
        Edge.line(x, "step 0 for 1; step 28 for 2;");
        int top = code(0, 7, 0, 0, 0);
        int deep = code(1, -7, 1, 0, 0);
        Edge.book(x, "bad when gap = 70 and sort = 0 and under = 1 and rise = 0 and climb = 0 - 28 and was = 0 and last = 1;");
        Edge.due("as far below", x.breach(top, deep, 0), 2);
        Edge.book(x, "bad when gap = 56 and sort = 0 and under = 1 and rise = 28 and climb = 0 - 28 and was = 0 and last = 0;");
        Edge.due("as far below with one delay", x.breach(top, code(0, 7, 1, 0, 0), 0), 1);
    }

    private static void beats() {
        Edge.says(Edge.TERMS, "beat: t modulo the measure;");
        OneLine x = Edge.with(Edge.times(24, "step 1 for 4;"), "");
        int code = code(0, 1, 0, 0, 0);
        int[][] rows = {{2, 0, 0}, {2, 1, NONE}, {3, 0, 0}, {3, 1, 4}, {3, 2, 8}, {5, 1, 16}, {5, 4, 4}, {12, 8, 8}, {12, 11, NONE},
            {11, 10, 32}, {12, 12, NONE}};
        for (int[] row : rows) {
            Edge.book(x, "measure " + row[0] + "; bad when beat = " + row[1] + ";");
            Edge.due("beat " + row[1] + " of " + row[0], x.breach(LEADER, code, 0), row[2]);
        }
        Edge.book(x, "bad when beat = 0; measure 12;");
        for (int k = 0; k < 8; k++) {
            Edge.due("a measure told behind the rule", x.broken(LEADER, code, k), 1200 * k);
        }
        Edge.due("no more", x.broken(LEADER, code, 8), NONE);
        Edge.book(x, "bad when beat = 3;");
        Edge.due("four without", x.breach(LEADER, code(3, 0, 0, 0, 0), 0), 3);
        Edge.book(x, "measure 7; bad when beat = 6;");
        Edge.due("of two that are late", x.breach(code(24, 0, 0, 0, 1), code(23, 0, 0, 0, 1), 0), 48);
    }

    private static void movements() {
        Edge.says(Edge.TERMS, "rise: what the first one sings less what it sang in the TICK ahead (0, if it was silent), climb: likewise the second one;");
        OneLine x = Edge.with(FALLS, "");
        int code = code(0, 1, 0, 0, 0);
        int mirrored = code(0, 0, 1, 0, 0);
        brokenBy(x, code, "rise = 0", 0, 3);
        brokenBy(x, code, "rise = 0 - 4", 1);
        brokenBy(x, code, "rise = 0 - 28", 4);
        brokenBy(x, code, "climb = 0", 0, 3);
        brokenBy(x, mirrored, "climb = 4", 1);
        brokenBy(x, mirrored, "climb = 28", 4);
        brokenBy(x, mirrored, "rise > 0");
        brokenBy(x, code(1, 0, 0, 0, 0), "rise = 0 and climb = 0");
        brokenBy(x, code(1, 0, 0, 0, 0), "rise = 0 - 4 and climb = 0", 1);
        brokenBy(x, code(1, 0, 0, 0, 0), "rise = 0 - 28 and climb = 0", 4);
        Edge.says(Edge.TERMS, "was: sort in the TICK ahead (7, if one was silent);");
        brokenBy(x, code, "was = 7", 0, 3);
        brokenBy(x, code, "was = 1", 1, 4);
        brokenBy(x, code(0, 7, 0, 0, 0), "was = 0", 1, 4);
        brokenBy(x, code(0, -6, 0, 0, 0), "was = 6", 1, 4);
        brokenBy(x, mirrored, "was = 0", 1);
        brokenBy(x, mirrored, "was = 4", 4);
        brokenBy(x, code(1, 0, 0, 0, 0), "was = 7", 1, 4);
    }

    private static void lasts() {
        Edge.says(Edge.TERMS, "last: 1, if one is silent in the next TICK, else 0.");
        OneLine x = Edge.with(FALLS, "");
        int code = code(0, 1, 0, 0, 0);
        brokenBy(x, code, "last = 1", 1, 4);
        brokenBy(x, code, "last = 0", 0, 3);
        brokenBy(x, code(1, 0, 0, 0, 0), "last = 1", 1, 4);
        Edge.line(x, "step 1 for 1; step 2 for 2; step 3 for 1;");
        brokenBy(x, code(0, 0, 0, 0, 1), "last = 1", 3);
        brokenBy(x, code(1, 0, 0, 0, 0), "last = 1", 3);
        Edge.line(x, "step 1 for 2; step 2 for 2; step 3 for 4;");
        brokenBy(x, code(0, 0, 0, 0, 2), "last = 1");
        brokenBy(x, code(1, 0, 0, 0, 2), "last = 1", 4);
        Edge.line(x, "step 1 for 2;");
        brokenBy(x, code(1, 0, 0, 0, 0), "last = 1", 1);
        brokenBy(x, code(0, 1, 0, 0, 0), "last = 1");
    }

    private static void code() {
        Edge.says(11, "The CODE of a FOLLOWER; NONE when it is none.");
        OneLine x = new OneLine();
        Edge.due("the least", x.code(0, -7, 0, 0, 0), 0);
        Edge.due("the greatest", x.code(24, 7, 1, 1, 2), 4499);
        int[] first = {0, 0, 0, 0, 0};
        int[] least = {0, -7, 0, 0, 0};
        int[] most = {24, 7, 1, 1, 2};
        for (int part = 0; part < 5; part++) {
            int[] others = {least[part] - 1, most[part] + 1, Edge.LEAST, Edge.MOST};
            for (int other : others) {
                int[] p = first.clone();
                p[part] = other;
                Edge.due("part " + part + " " + other, x.code(p[0], p[1], p[2], p[3], p[4]), NONE);
            }
        }
        Edge.line(x, "step 1 for 1;");
        Edge.due("one that can't be has a code", x.code(0, 0, 0, 0, 2), 86);
    }

    private static void follower() {
        Edge.says(12, "5 whether it can be, 6 the TICK in which it is over (NONE if it can't be).");
        OneLine x = new OneLine();
        Edge.due("over at once", x.follower(84, 6), 0);
        Edge.due("over at its delay", x.follower(4499, 6), 24);
        Edge.line(x, Edge.times(6, "step 1 for 16;"));
        Edge.due("the latest end", x.follower(code(24, 0, 0, 0, 1), 6), 216);
        Edge.due("double", x.follower(code(24, 0, 0, 0, 2), 6), 72);
        Edge.due("can be", x.follower(code(24, 0, 0, 0, 2), 5), 1);
        Edge.line(x, "step 1 for 1; rest for 1;");
        Edge.due("can't be", x.follower(code(24, 0, 0, 0, 2), 5), 0);
        Edge.due("never over", x.follower(code(24, 0, 0, 0, 2), 6), NONE);
        Edge.due("its delay all the same", x.follower(code(24, 0, 0, 0, 2), 0), 24);
        Edge.says(12, "NOTHING when there is none such, or for others.");
        for (int code : NO_CODES) {
            for (int what = 0; what < 7; what++) {
                Edge.due("follower(" + code + ", " + what + ")", x.follower(code, what), NO);
            }
        }
        int[] others = {-1, 7, Edge.LEAST, Edge.MOST};
        for (int what : others) {
            Edge.due("follower(84, " + what + ")", x.follower(84, what), NO);
        }
    }

    private static void sings() {
        Edge.says(13, "What a FOLLOWER sings in a TICK (0 .. 999); NOTHING when it is silent, can't be, or there is none such.");
        OneLine x = Edge.with(Edge.times(6, "step 1 for 16;"), "");
        int late = code(24, 7, 0, 0, 1);
        Edge.song(x, late, 214, 8, 8, NO);
        Edge.song(x, late, 23, NO, 8);
        Edge.due("tick 0", x.sings(84, 0), 1);
        int[] silent = {999, 1000, -1, 1001, Edge.MOST, Edge.LEAST};
        for (int tick : silent) {
            Edge.due("sings(84, " + tick + ")", x.sings(84, tick), NO);
            Edge.due("sings(late, " + tick + ")", x.sings(late, tick), NO);
            Edge.due("sings(back, " + tick + ")", x.sings(code(0, 0, 0, 1, 2), tick), NO);
        }
        for (int code : NO_CODES) {
            Edge.due("sings(" + code + ", 0)", x.sings(code, 0), NO);
        }
        Edge.line(x, "step 1 for 2; step 2 for 1;");
        for (int tick = 0; tick < 3; tick++) {
            Edge.due("can't be", x.sings(code(0, 0, 0, 0, 2), tick), NO);
        }
    }

    private static void breach() {
        Edge.says(14, "The BREACH of two unlike FOLLOWERS (by their CODES; THE LEADER's, too): its TICK (what 0), the RULE (1);");
        OneLine x = Edge.with("step 0 for 2; step 2 for 2;", "bad when gap = 9; bad when gap = 0; bad when gap = 2;");
        Edge.due("its tick", x.breach(84, 444, 0), 2);
        Edge.due("its rule", x.breach(84, 444, 1), 2);
        Edge.due("of two others", x.breach(code(1, 0, 0, 0, 0), 444, 0), 2);
        Edge.due("their rule", x.breach(code(1, 0, 0, 0, 0), code(1, 0, 0, 0, 1), 1), 1);
        Edge.says(14, "NONE without, when one can't be, there are none such, or for others.");
        Edge.due("without", x.breach(84, code(0, 1, 0, 0, 0), 0), NONE);
        Edge.due("without a rule", x.breach(84, code(0, 1, 0, 0, 0), 1), NONE);
        int[] others = {-1, 2, Edge.LEAST, Edge.MOST};
        for (int what : others) {
            Edge.due("what " + what, x.breach(84, 444, what), NONE);
        }
        twoThatAreNone(x, 1);
    }

    /** Two that answer NONE for breach, together and broken alike. */
    private static void twoThatAreNone(OneLine x, int call) {
        for (int code : NO_CODES) {
            Edge.due("84, " + code, two(x, call, 84, code), NONE);
            Edge.due(code + ", 84", two(x, call, code, 84), NONE);
        }
        Edge.due("one with itself", two(x, call, 444, 444), NONE);
        Edge.due("the leader with itself", two(x, call, 84, 84), NONE);
        Edge.due("a book that breaks all", Edge.book(x, "bad when all;"), 1);
        Edge.due("one with itself", two(x, call, 444, 444), NONE);
        Edge.due("the leader with itself", two(x, call, 84, 84), NONE);
        Edge.line(x, "step 0 for 2; step 1 for 1;");
        Edge.due("the second can't be", two(x, call, 84, 86), NONE);
        Edge.due("the first can't be", two(x, call, 86, 84), NONE);
        Edge.due("both can't be", two(x, call, 86, 89), NONE);
        Edge.due("both can be", two(x, call, 84, 85) >= 0, true);
    }

    private static int two(OneLine x, int call, int first, int second) {
        if (call == 1) {
            return x.breach(first, second, 0);
        }
        return call == 2 ? x.together(first, second, 0) : x.broken(first, second, 0);
    }

    private static void together() {
        Edge.says(15, "In how many TICKS two such both sing (what 0), how many of these are BROKEN (1), the most steps apart (2; 0 when they never both sing).");
        OneLine x = Edge.with("step 0 for 2; rest for 1; step 9 for 1;", "bad when under = 1;");
        Edge.due("both", x.together(84, code(0, 1, 0, 0, 0), 0), 3);
        Edge.due("broken", x.together(84, code(0, -1, 0, 0, 0), 1), 2);
        Edge.due("apart", x.together(84, code(0, -7, 0, 0, 0), 2), 7);
        Edge.due("never apart", x.together(84, code(1, 0, 0, 0, 0), 2), 0);
        Edge.due("though both sing once", x.together(84, code(1, 0, 0, 0, 0), 0), 1);
        Edge.due("they meet at the last tick", x.together(84, code(3, 0, 0, 0, 0), 0), 1);
        Edge.due("they are nine apart", x.together(84, code(3, 0, 0, 0, 0), 2), 9);
        for (int what = 0; what < 3; what++) {
            Edge.due("they never meet", x.together(84, code(4, 0, 0, 0, 0), what), 0);
        }
        Edge.due("one sings in the other's rest", x.together(84, code(2, 0, 0, 0, 0), 0), 1);
        Edge.due("its break", x.together(84, code(2, 0, 0, 0, 0), 1), 1);
        Edge.line(x, "");
        for (int what = 0; what < 3; what++) {
            Edge.due("no notes", x.together(84, code(1, 0, 0, 0, 0), what), 0);
        }
        Edge.says(15, "NONE likewise.");
        Edge.line(x, "step 0 for 2; rest for 2; step 9 for 2;");
        int[] others = {-1, 3, Edge.LEAST, Edge.MOST};
        for (int what : others) {
            Edge.due("what " + what, x.together(84, 444, what), NONE);
        }
        twoThatAreNone(x, 2);
    }

    private static void broken() {
        Edge.says(16, "The k-th TICK that is BROKEN by such two: 100 times the TICK and the RULE; NONE when there is none such, or likewise.");
        OneLine x = Edge.with(Edge.times(24, "step 1 for 4;"), "bad when all;");
        int code = code(2, 0, 0, 0, 0);
        for (int k = 0; k < 47; k++) {
            Edge.due("broken " + k, x.broken(84, code, k), 100 * (2 + 2 * k));
        }
        Edge.due("no 48th", x.broken(84, code, 47), NONE);
        int half = code(1, 0, 0, 0, 1);
        Edge.due("the latest of two halves", x.broken(half, code(2, 0, 0, 0, 1), 46), 100 * (2 + 23 * 8));
        int[] none = {-1, 48, 1000, Edge.LEAST, Edge.MOST};
        for (int k : none) {
            Edge.due("broken " + k, x.broken(84, code, k), NONE);
        }
        Edge.line(x, "step 0 for 2; step 2 for 2;");
        twoThatAreNone(x, 3);
    }

    private static void span() {
        Edge.says(17, "The least step (most false), the greatest that a FOLLOWER ever sings; NOTHING when it sings none, can't be, or there is none such.");
        OneLine x = Edge.with("rest for 1; step 28 for 1; step 0 for 1; step 14 for 1;", "");
        spanIs(x, 84, 0, 28);
        spanIs(x, code(24, 7, 1, 1, 1), 35, 63);
        spanIs(x, code(0, -7, 0, 1, 0), -7, 21);
        Edge.line(x, "step 0 for 1; step 28 for 1;");
        spanIs(x, code(0, -7, 1, 0, 0), -35, -7);
        Edge.line(x, "step 6 for 1;");
        spanIs(x, code(0, 0, 1, 0, 0), 6, 6);
        spanIs(x, code(0, 0, 0, 0, 2), NO, NO);
        for (int code : NO_CODES) {
            spanIs(x, code, NO, NO);
        }
        Edge.line(x, "rest for 2;");
        spanIs(x, 84, NO, NO);
        Edge.line(x, "");
        spanIs(x, 84, NO, NO);
    }

    private static void spanIs(OneLine x, int code, int least, int most) {
        Edge.due("span(" + code + ", false)", x.span(code, false), least);
        Edge.due("span(" + code + ", true)", x.span(code, true), most);
    }
}
