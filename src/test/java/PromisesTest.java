/** Each promise of the document by hand: ordinary inputs, edges, wrong inputs. */
public final class PromisesTest {
    private static final int NONE = OneLine.NONE;
    private static final int NOTHING = OneLine.NOTHING;
    private static final String ARCH = "step 0 for 2; step 2 for 2;\nstep 4 for 2; step 2 for 2;";
    private static int wrong;
    private static int promise;

    private static void due(String call, long got, long want) {
        if (got != want) {
            wrong++;
            System.out.println("promise " + promise + ": " + call + " answered " + got + ", due is " + want);
        }
    }

    private static void due(String call, boolean got, boolean want) {
        due(call, got ? 1 : 0, want ? 1 : 0);
    }

    private static int line(OneLine x, String text) {
        x.end(0);
        due("feeding", Texts.feed(x, text), true);
        return x.line();
    }

    private static int book(OneLine x, String text) {
        x.end(0);
        due("feeding", Texts.feed(x, text), true);
        return x.book();
    }

    private static OneLine with(String line, String book) {
        OneLine x = new OneLine();
        due("line " + line, line(x, line) >= 0, true);
        due("book " + book, book(x, book) >= 0, true);
        return x;
    }

    private static String times(int n, String text) {
        return text.repeat(n);
    }

    public static void main(String[] args) {
        newObject();
        tape();
        lineText();
        bookText();
        faults();
        told();
        bounds();
        codes();
        sings();
        breaches();
        together();
        span();
        ways();
        signs();
        mottos();
        reckoning();
        alike();
        rules();
        rounds();
        made();
        richest();
        wrongNotes();
        changed();
        drawn();
        images();
        System.out.println(wrong == 0 ? "all promises hold" : wrong + " answers are not as due");
        System.exit(wrong == 0 ? 0 : 1);
    }

    private static void newObject() {
        promise = 1;
        OneLine x = new OneLine();
        int[] due = {0, 0, 0, 0, 0, 4, NONE, 8, 4, 0};
        for (int what = 0; what < due.length; what++) {
            due("has(" + what + ")", x.has(what), due[what]);
        }
        due("ways(2)", x.ways(2), 80);
        due("fault(0)", x.fault(0), 0);
        due("fault(1)", x.fault(1), NONE);
        due("octet(0)", x.octet(0), NONE);
        due("end(1)", x.end(1), false);
    }

    private static void tape() {
        promise = 2;
        OneLine x = new OneLine();
        for (int n = 1; n <= 80; n++) {
            due("feed", x.feed(0x20202020, 0x20202020, 0x20202020, 0x20202020, 0x20202020), 20 * n);
        }
        due("feed above 1600", x.feed(0, 0, 0, 0, 0), NONE);
        due("line() of 1600 blanks", x.line(), 0);
        for (int n = 1; n <= 80; n++) {
            x.feed(0x20202020, 0x20202020, 0x20202020, 0x20202020, 0x20202020);
        }
        due("end(1581)", x.end(1581), true);
        due("feed to 1601", x.feed(0, 0, 0, 0, 0), NONE);
        due("end(1580)", x.end(1580), true);
        due("feed to 1600", x.feed(0, 0, 0, 0, 0xff000000), 1600);
        due("line()", x.line(), NONE);
        due("its place", x.fault(1), 1580);
        x.feed(0x73746570, 0x20382066, 0x6f722031, 0x363b2000, 0);
        x.end(15);
        due("highest byte first", x.line(), 1);
        due("step 8", x.note(0, 0), 8);
        due("for 16", x.note(0, 1), 16);
        promise = 3;
        x.feed(0, 0, 0, 0, 0);
        due("end(21)", x.end(21), false);
        due("end(-1)", x.end(-1), false);
        due("end(MIN)", x.end(Integer.MIN_VALUE), false);
        due("end(20)", x.end(20), true);
        due("end(0)", x.end(0), true);
        due("end(1)", x.end(1), false);
        due("end(0) again", x.end(0), true);
    }

    private static void lineText() {
        promise = 4;
        OneLine x = with("", "measure 3; bad when all; motto low when high < 0;");
        due("bounds", x.bounds(3, 2, 1), 39);
        due("three statements", line(x, "step 28 for 16;rest for 1;\n\n step 0000 for 0002 ;\n"), 3);
        due("notes", x.has(0), 3);
        due("book stays", x.has(5) * 100 + x.has(3) * 10 + x.has(4), 311);
        due("bounds stay", x.has(7) * 100 + x.has(8) * 10 + x.has(9), 321);
        due("a fault", line(x, "step 1 for 1; step"), NONE);
        due("the line stays", x.has(0), 3);
        due("the tape goes", x.feed(0, 0, 0, 0, 0), 20);
        x.end(0);
        due("96 ticks", line(x, times(6, "step 1 for 16;")), 6);
        due("ticks", x.has(2), 96);
        due("97 ticks", line(x, times(5, "step 1 for 16;") + "rest for 15; step 0 for 2;"), NONE);
        due("24 statements", line(x, times(24, "rest for 4; ")), 24);
        due("an empty text", line(x, ""), 0);
        due("no notes", x.has(0) + x.has(2), 0);
        due("blanks alone", line(x, " \n "), 0);
    }

    private static void bookText() {
        promise = 5;
        OneLine x = with(ARCH, "measure 3; measure 12; bad when gap = 1; motto a when all; motto abcdef when all;");
        due("measure", x.has(5), 12);
        due("the line stays", x.has(0), 4);
        due("a fault", book(x, "measure 5; bad when;"), NONE);
        due("measure stays", x.has(5), 12);
        due("rules stay", x.has(3), 1);
        due("mottos stay", x.has(4), 2);
        due("the tape goes", x.feed(0, 0, 0, 0, 0), 20);
        x.end(0);
        due("12 rules and 6 mottos", book(x, times(12, "bad when all;") + "motto a when all;motto b when all;"
            + "motto c when all;motto d when all;motto e when all;motto f when all;"), 18);
        due("rules", x.has(3), 12);
        due("mottos", x.has(4), 6);
        due("measure without", x.has(5), 4);
        due("60 statements", book(x, times(60, "measure 2;")), 60);
        due("measure 2", x.has(5), 2);
        due("no rules", x.has(3) + x.has(4), 0);
        due("an empty book", book(x, ""), 0);
        due("measure of none", x.has(5), 4);
        due("six open", book(x, "bad when not [ not ( ( min ( 1 , 2 ) ) ) = 1 ] ;"), 1);
        due("one behind the other", book(x, "bad when not not all and not not not all or not not not not all;"), 1);
        due("all signs", book(x, "bad when gap+sort-under*beat/rise<climb and was>last or max(1,2)=min(3,4);"
            + "motto x when delay+high*mirror-back/pace=0;"), 2);
    }

    private static void fault(boolean ofBook, String text, int kind, int place) {
        OneLine x = new OneLine();
        int got = ofBook ? book(x, text) : line(x, text);
        due("reading " + text, got, NONE);
        due("fault(0) of " + text, x.fault(0), kind);
        due("fault(1) of " + text, x.fault(1), place);
    }

    private static void faults() {
        promise = 6;
        String[] lines = {
            "1 0 x", "1 0 stepp 1 for 1;", "1 4 step5 for 1;", "1 7 step 12for 1;", "1 10 step 5 for1;", "1 6 step  ",
            "1 5 step x", "1 9 step 12345 for 1;", "2 5 step 29 for 1;", "2 5 step 9999 for 1;", "2 11 step 2 for 0;",
            "2 11 step 2 for 17;", "1 13 step 2 for 16", "1 14 step 2 for 16 step", "1 15 step 2 for 1234567;",
            "1 7 step 2 4;", "1 7 step 2 fo 4;", "1 5 rest 4;", "1 16 rest for 2; step2 for 2;", "1 0 ;",
            "1 11 rest for 2;;", "1 0 Rest for 2;", "1 4 rest\tfor 2;", "1 5 step -1 for 2;",
        };
        for (String row : lines) {
            String[] parts = row.split(" ", 3);
            fault(false, parts[2], Integer.parseInt(parts[0]), Integer.parseInt(parts[1]));
        }
        fault(false, times(24, "rest for 1;") + " ?", 5, 24 * 11 + 1);
        fault(false, times(24, "rest for 1;") + "step", 5, 24 * 11);
        fault(false, times(6, "rest for 16;") + "rest for 1;", 2, 81);
        bookFaults();
        deepFaults();
        OneLine x = new OneLine();
        book(x, "bad");
        due("fault(0)", x.fault(0), 1);
        due("fault(2)", x.fault(2), NONE);
        due("fault(-1)", x.fault(-1), NONE);
        line(x, "rest for 2;");
        due("fault(0) without", x.fault(0), 0);
        due("fault(1) without", x.fault(1), NONE);
    }

    private static void bookFaults() {
        fault(true, "measure 1;", 2, 8);
        fault(true, "measure 13;", 2, 8);
        fault(true, "measure 00012;", 1, 12);
        fault(true, "measure4;", 1, 7);
        fault(true, "measur 4;", 1, 0);
        fault(true, "step 1 for 1;", 1, 0);
        fault(true, "bad when delay = 1;", 1, 9);
        fault(true, "motto a when gap = 1;", 1, 13);
        fault(true, "bad when gap;", 1, 12);
        fault(true, "bad when gap = 1 = 1;", 1, 17);
        fault(true, "bad when gap = 1or all;", 1, 16);
        fault(true, "bad when gap = 1 andall;", 1, 17);
        fault(true, "bad when [all;", 1, 13);
        fault(true, "bad when all];", 1, 12);
        fault(true, "bad when (gap) ;", 1, 15);
        fault(true, "bad when ([gap = 1]) = 1;", 1, 10);
        fault(true, "bad when min 1, 2) = 1;", 1, 13);
        fault(true, "bad when min (1) = 1;", 1, 15);
        fault(true, "bad when max (1, 2 = 1;", 1, 19);
        fault(true, "bad when -1 = 1;", 1, 9);
        fault(true, "bad when 10000 = 1;", 1, 13);
        fault(true, "bad when gap < > 1;", 1, 15);
        fault(true, "bad when all", 1, 12);
        fault(true, "bad when all \n", 1, 14);
        fault(true, "bad all;", 1, 4);
        fault(true, "motto when when all;", 1, 6);
        fault(true, "motto pace when all;", 1, 6);
        fault(true, "motto measure when all;", 1, 6);
        fault(true, "motto abcdefg when all;", 1, 12);
        fault(true, "motto abcdefghi when all;", 1, 12);
        fault(true, "motto ab1 when all;", 1, 8);
        fault(true, "motto 1 when all;", 1, 6);
        fault(true, "motto ab when all; motto abc when all; motto ab when x;", 3, 45);
        String rules = times(12, "bad when all;");
        fault(true, rules + "bad x", 5, 156);
        fault(true, rules + "badly", 1, 156);
        String mottos = "motto a when all;motto b when all;motto c when all;motto d when all;motto e when all;"
            + "motto f when all;";
        fault(true, mottos + "\nmotto a when all;", 5, 103);
        fault(true, times(60, "measure 2;") + "(", 5, 600);
        fault(true, rules + times(48, "measure 2;") + "bad when all;", 5, 636);
    }

    private static void deepFaults() {
        fault(true, "bad when ((((((( ", 4, 15);
        fault(true, "bad when [[[[[[[ ", 4, 15);
        fault(true, "bad when not not not not not not not all;", 4, 33);
        fault(true, "bad when not [ not ( ( min ( (", 4, 29);
        fault(true, "bad when [[[[[[ min (", 4, 20);
        fault(true, "bad when [[[[[[ min 1", 1, 20);
        fault(true, "bad when not gap = ((((((1", 4, 24);
        fault(true, "bad when not all and [ not (((((1)))) = 1 ];", 4, 31);
    }

    private static void told() {
        OneLine x = with("rest for 3; step 5 for 1; rest for 2; step 28 for 16;", "motto low when all; motto zyxabc when all;");
        promise = 7;
        int[] due = {4, 2, 22, 0, 2, 4, 5, 8, 4, 0};
        for (int what = 0; what < due.length; what++) {
            due("has(" + what + ")", x.has(what), due[what]);
        }
        due("has(-1)", x.has(-1), NONE);
        due("has(10)", x.has(10), NONE);
        line(x, "rest for 3;");
        due("no first step", x.has(6), NONE);
        promise = 8;
        int[] low = {12, 15, 23, 0, 0, 0};
        int[] other = {26, 25, 24, 1, 2, 3};
        for (int k = 0; k < 6; k++) {
            due("letter(0, " + k + ")", x.letter(0, k), low[k]);
            due("letter(1, " + k + ")", x.letter(1, k), other[k]);
        }
        due("letter(0, 6)", x.letter(0, 6), NONE);
        due("letter(0, -1)", x.letter(0, -1), NONE);
        due("letter(2, 0)", x.letter(2, 0), NONE);
        due("letter(-1, 0)", x.letter(-1, 0), NONE);
        due("a shorter name", book(x, "motto b when all;"), 1);
        due("letter(0, 1)", x.letter(0, 1), 0);
        due("letter(1, 0)", x.letter(1, 0), NONE);
        promise = 9;
        line(x, "rest for 3; step 5 for 1; step 0 for 2;");
        int[][] notes = {{NONE, 3, 0}, {5, 1, 3}, {0, 2, 4}};
        for (int n = 0; n < 3; n++) {
            for (int what = 0; what < 3; what++) {
                due("note(" + n + ", " + what + ")", x.note(n, what), notes[n][what]);
            }
        }
        due("note(3, 1)", x.note(3, 1), NONE);
        due("note(-1, 1)", x.note(-1, 1), NONE);
        due("note(1, 3)", x.note(1, 3), NONE);
        due("note(1, -1)", x.note(1, -1), NONE);
    }

    private static void bounds() {
        promise = 10;
        OneLine x = new OneLine();
        int[][] rows = {
            {0, 0, 0, 0}, {24, 7, 15, 4499}, {8, 4, 0, 80}, {1, 0, 1, 3}, {1, 0, 2, 3}, {1, 0, 4, 3}, {1, 0, 8, 3},
            {1, 0, 12, 5}, {1, 0, 3, 7}, {2, 1, 7, 71}, {25, 0, 0, NONE}, {-1, 0, 0, NONE}, {0, 8, 0, NONE},
            {0, -1, 0, NONE}, {0, 0, 16, NONE}, {0, 0, -1, NONE},
        };
        for (int[] row : rows) {
            due("bounds(" + row[0] + ", " + row[1] + ", " + row[2] + ")", x.bounds(row[0], row[1], row[2]), row[3]);
        }
        due("refused ones do nothing", x.has(7) * 100 + x.has(8) * 10 + x.has(9), 217);
        line(x, "step 1 for 1;");
        due("those that can't be count", x.bounds(1, 0, 8), 3);
        due("but are no ways", x.ways(2), 1);
    }

    private static void codes() {
        OneLine x = with("step 1 for 3; rest for 2;", "");
        promise = 11;
        int[][] rows = {
            {0, 0, 0, 0, 0, 84}, {0, -7, 0, 0, 0, 0}, {0, -7, 0, 0, 1, 1}, {0, -7, 0, 1, 0, 3}, {0, -7, 1, 0, 0, 6},
            {0, -6, 0, 0, 0, 12}, {1, -7, 0, 0, 0, 180}, {24, 7, 1, 1, 2, 4499}, {3, -2, 1, 0, 1, 607},
            {25, 0, 0, 0, 0, NONE}, {-1, 0, 0, 0, 0, NONE}, {0, 8, 0, 0, 0, NONE}, {0, -8, 0, 0, 0, NONE},
            {0, 0, 2, 0, 0, NONE}, {0, 0, -1, 0, 0, NONE}, {0, 0, 0, 2, 0, NONE}, {0, 0, 0, -1, 0, NONE},
            {0, 0, 0, 0, 3, NONE}, {0, 0, 0, 0, -1, NONE},
        };
        for (int[] r : rows) {
            due("code " + r[5], x.code(r[0], r[1], r[2], r[3], r[4]), r[5]);
        }
        promise = 12;
        int[] half = {3, -2, 1, 0, 1, 1, 13};
        int[] twice = {3, -2, 1, 0, 2, 0, NONE};
        int[] leader = {0, 0, 0, 0, 0, 1, 5};
        for (int what = 0; what < 7; what++) {
            due("follower(607, " + what + ")", x.follower(607, what), half[what]);
            due("follower(608, " + what + ")", x.follower(608, what), twice[what]);
            due("follower(84, " + what + ")", x.follower(84, what), leader[what]);
        }
        due("follower(84, 7)", x.follower(84, 7), NOTHING);
        due("follower(84, -1)", x.follower(84, -1), NOTHING);
        due("follower(-1, 0)", x.follower(-1, 0), NOTHING);
        due("follower(4500, 0)", x.follower(4500, 0), NOTHING);
        line(x, "step 1 for 4; rest for 2;");
        due("it can be", x.follower(608, 5), 1);
        due("over at", x.follower(608, 6), 6);
        line(x, "step 1 for 4; rest for 1; rest for 1;");
        due("an odd rest", x.follower(608, 5), 0);
    }

    private static void song(OneLine x, int code, int from, int... steps) {
        for (int i = 0; i < steps.length; i++) {
            due("sings(" + code + ", " + (from + i) + ")", x.sings(code, from + i), steps[i]);
        }
    }

    private static void sings() {
        promise = 13;
        int no = NOTHING;
        OneLine x = with("rest for 2; step 3 for 2; step 5 for 4;", "");
        song(x, 84, 0, no, no, 3, 3, 5, 5, 5, 5, no);
        song(x, x.code(1, 2, 0, 0, 0), 0, no, no, no, 5, 5, 7, 7, 7, 7, no);
        song(x, x.code(0, 0, 1, 0, 0), 0, no, no, 3, 3, 1, 1, 1, 1, no);
        song(x, x.code(0, -7, 1, 0, 0), 2, -4, -4, -6);
        song(x, x.code(1, 0, 0, 1, 0), 0, no, 5, 5, 5, 5, 3, 3, no, no, no);
        song(x, x.code(1, 0, 0, 0, 1), 0, no, no, no, no, no, 3, 3, 3, 3, 5, 5, 5, 5, 5, 5, 5, 5, no);
        song(x, x.code(1, 0, 0, 0, 2), 0, no, no, 3, 5, 5, no);
        song(x, x.code(0, 1, 1, 1, 2), 0, 2, 2, 4, no, no);
        song(x, x.code(0, 0, 0, 1, 1), 6, 5, 5, 3, 3, 3, 3, no);
        due("sings(84, -1)", x.sings(84, -1), NOTHING);
        due("sings(84, 1000)", x.sings(84, 1000), NOTHING);
        due("sings(-1, 3)", x.sings(-1, 3), NOTHING);
        due("sings(4500, 3)", x.sings(4500, 3), NOTHING);
        line(x, "step 3 for 1;");
        due("it can't be", x.sings(x.code(0, 0, 0, 0, 2), 0), NOTHING);
    }

    private static void breachOf(String test, int tick) {
        OneLine x = with(ARCH, "bad when " + test + ";");
        due("breach(84, 444, 0) by " + test, x.breach(84, 444, 0), tick);
        due("breach(444, 84, 0) by " + test, x.breach(444, 84, 0), tick);
    }

    private static void breaches() {
        promise = 14;
        breachOf("gap = 2", 2);
        breachOf("gap = 0", NONE);
        breachOf("under = 0", 6);
        breachOf("under = 1", 2);
        breachOf("beat = 0", 4);
        breachOf("beat = 1 or beat = 3", NONE);
        breachOf("rise < 0", 6);
        breachOf("rise = 2", 2);
        breachOf("climb > 0", 4);
        breachOf("climb = 0", 2);
        breachOf("was = 7", 2);
        breachOf("was = 2", 4);
        breachOf("last = 1", NONE);
        breachOf("all", 2);
        OneLine x = with("step 0 for 1; step 9 for 1;", "measure 2; bad when gap = 2; bad when last = 1 and sort = 2; bad when all;");
        due("last and sort", x.breach(84, 264, 0), 1);
        due("by the second", x.breach(84, 264, 1), 1);
        due("by the third", x.breach(84, 108, 1), 0);
        due("by the third, backwards", x.breach(84, 87, 1), 2);
        due("what 2", x.breach(84, 264, 2), NONE);
        due("what -1", x.breach(84, 264, -1), NONE);
        due("itself", x.breach(264, 264, 0), NONE);
        due("none such", x.breach(84, 4500, 0), NONE);
        due("none such", x.breach(-1, 84, 0), NONE);
        due("can't be", x.breach(84, 86, 0), NONE);
        x = with("step 0 for 2;", "bad when under = 1;");
        due("the leader is ahead of a lesser code", x.breach(72, 84, 0), 0);
        due("the leader is ahead of a greater code", x.breach(96, 84, 0), NONE);
        due("the lesser code is ahead", x.breach(264, 252, 0), NONE);
        due("the lesser delay is ahead", x.breach(264, 60, 0), NONE);
        due("the greater delay is below", x.breach(240, 84, 0), 1);
        x = with("step 0 for 2; rest for 2; step 1 for 2;", "bad when was = 7 and beat = 0;");
        due("a note begins behind a rest", x.breach(84, 96, 0), 0);
        x = with("rest for 4; step 0 for 2;", "bad when was = 7;");
        due("silent ahead", x.breach(84, 96, 0), 4);
        x = with("step 4 for 2; step 4 for 2;", "bad when beat = 2;");
        due("the same step begins again", x.breach(84, 96, 0), 2);
        x = with(ARCH, "measure 3; bad when beat = 1;");
        due("a measure of 3", x.breach(84, 444, 0), 4);
        book(x, "measure 12; bad when beat = 6;");
        due("a measure of 12", x.breach(84, 444, 0), 6);
        x = with("step 4 for 4;", "bad when beat = 2;");
        due("a note goes on", x.breach(84, 96, 0), NONE);
    }

    private static void together() {
        promise = 15;
        OneLine x = with(ARCH, "bad when under = 1;");
        due("both sing", x.together(84, 444, 0), 6);
        due("broken", x.together(84, 444, 1), 2);
        due("most apart", x.together(84, 444, 2), 2);
        due("most apart, higher", x.together(444, 84, 0), 6);
        due("seven higher", x.together(84, x.code(2, 7, 0, 0, 0), 2), 9);
        due("never both", x.together(84, x.code(8, 0, 0, 0, 0), 0), 0);
        due("never apart", x.together(84, x.code(8, 0, 0, 0, 0), 2), 0);
        due("what 3", x.together(84, 444, 3), NONE);
        due("what -1", x.together(84, 444, -1), NONE);
        due("itself", x.together(444, 444, 0), NONE);
        due("none such", x.together(84, 4500, 0), NONE);
        due("two halves", x.together(x.code(0, 0, 0, 0, 1), x.code(1, 0, 0, 0, 1), 0), 15);
        promise = 16;
        due("first", x.broken(84, 444, 0), 200);
        due("second", x.broken(444, 84, 1), 400);
        due("third", x.broken(84, 444, 2), NONE);
        due("k -1", x.broken(84, 444, -1), NONE);
        due("k MAX", x.broken(84, 444, Integer.MAX_VALUE), NONE);
        due("itself", x.broken(84, 84, 0), NONE);
        due("none such", x.broken(84, -1, 0), NONE);
        book(x, "bad when gap = 9; bad when beat = 2; bad when all;");
        due("by rule 1", x.broken(84, 444, 0), 201);
        due("by rule 2", x.broken(84, 444, 1), 402);
        line(x, "step 0 for 1; step 2 for 2;");
        due("can't be", x.broken(84, 446, 0), NONE);
        due("can't be", x.together(84, 446, 0), NONE);
    }

    private static void span() {
        promise = 17;
        OneLine x = with("rest for 2; step 3 for 2; step 5 for 4; step 0 for 2;", "");
        due("least", x.span(84, false), 0);
        due("most", x.span(84, true), 5);
        due("least of a mirrored", x.span(x.code(4, -7, 1, 1, 2), false), -6);
        due("most of a mirrored", x.span(x.code(4, -7, 1, 1, 2), true), -1);
        due("none such", x.span(-1, true), NOTHING);
        due("none such", x.span(4500, true), NOTHING);
        line(x, "step 3 for 1;");
        due("can't be", x.span(86, true), NOTHING);
        due("can be", x.span(85, true), 3);
        line(x, "rest for 2;");
        due("rests", x.span(84, true), NOTHING);
        line(x, "");
        due("no notes", x.span(84, false), NOTHING);
    }

    private static void ways() {
        promise = 18;
        OneLine x = with("step 0 for 2;", "");
        due("bounds", x.bounds(1, 1, 0), 5);
        due("ways(2)", x.ways(2), 5);
        due("ways(3)", x.ways(3), 10);
        due("ways(4)", x.ways(4), 10);
        due("ways(1)", x.ways(1), NONE);
        due("ways(5)", x.ways(5), NONE);
        promise = 19;
        int[] codes = {72, 96, 252, 264, 276};
        for (int k = 0; k < 5; k++) {
            due("way(2, " + k + ", 0)", x.way(2, k, 0), codes[k]);
        }
        due("first pair", x.way(3, 0, 0) * 10000 + x.way(3, 0, 1), 720096);
        due("second pair", x.way(3, 1, 0) * 10000 + x.way(3, 1, 1), 720252);
        due("last pair", x.way(3, 9, 0) * 10000 + x.way(3, 9, 1), 2640276);
        due("last three", x.way(4, 9, 0) + x.way(4, 9, 1) + x.way(4, 9, 2), 252 + 264 + 276);
        due("second three", x.way(4, 1, 2), 264);
        due("fourth three", x.way(4, 3, 1), 252);
        int[][] none = {{2, 5, 0}, {2, -1, 0}, {2, 0, 1}, {2, 0, -1}, {3, 10, 0}, {3, 0, 2}, {4, 10, 0}, {4, 0, 3}, {1, 0, 0}, {5, 0, 0}};
        for (int[] row : none) {
            due("way(" + row[0] + ", " + row[1] + ", " + row[2] + ")", x.way(row[0], row[1], row[2]), NONE);
        }
        book(x, "bad when gap = 2;");
        due("ways(2) with gap = 2", x.ways(2), 5);
        due("ways(3): 72 96, 72 276, 96 252, 252 276 clash", x.ways(3), 6);
        due("ways(4): 72 252 264, 96 264 276", x.ways(4), 2);
        due("its last", x.way(4, 1, 2), 276);
        promise = 26;
        due("over(2, 0)", x.over(2, 0), 2);
        due("over(2, 4)", x.over(2, 4), 3);
        due("over(3, 5)", x.over(3, 5), 3);
        due("over(4, 1)", x.over(4, 1), 3);
        due("over(2, 5)", x.over(2, 5), NONE);
        due("over(3, 6)", x.over(3, 6), NONE);
        due("over(2, -1)", x.over(2, -1), NONE);
        due("over(5, 0)", x.over(5, 0), NONE);
        due("over(1, 0)", x.over(1, 0), NONE);
        firstForty();
    }

    private static void firstForty() {
        promise = 18;
        OneLine x = with("", "");
        due("80 ways", x.ways(2), 80);
        due("pairs of the first 40", x.ways(3), 780);
        due("threes of the first 40", x.ways(4), 9880);
        promise = 19;
        due("last pair", x.way(3, 779, 0), x.way(2, 38, 0));
        due("last pair", x.way(3, 779, 1), x.way(2, 39, 0));
        due("last three", x.way(4, 9879, 0), x.way(2, 37, 0));
        due("last three", x.way(4, 9879, 2), x.way(2, 39, 0));
        due("beyond", x.way(4, 9880, 0), NONE);
        due("bounds", x.bounds(24, 7, 15), 4499);
        due("all", x.ways(2), 4499);
        due("the last one", x.way(2, 4498, 0), 4499);
        due("the leader is none", x.way(2, 84, 0), 85);
        promise = 26;
        line(x, "step 1 for 4;");
        x.bounds(3, 0, 12);
        due("the leader, too", x.over(2, 1), 4);
        due("a half", x.over(2, 0), 8);
        due("the last", x.over(2, x.ways(2) - 1), 5);
    }

    private static void signs() {
        OneLine x = with("step 0 for 2;", "");
        x.bounds(1, 1, 0);
        promise = 20;
        int[] due = {3, 3, 3, 2, 3};
        for (int k = 0; k < 5; k++) {
            due("signs(" + k + ")", x.signs(k), due[k]);
        }
        due("signs(5)", x.signs(5), NONE);
        due("signs(-1)", x.signs(-1), NONE);
        promise = 21;
        int[] like = {5, 2, 2, 1, 5, 2, 2, 1, 5};
        for (int bits = 0; bits < like.length; bits++) {
            due("like(0, " + bits + ")", x.like(0, bits), like[bits]);
        }
        due("like(0, 31)", x.like(0, 31), 1);
        due("like(3, 1)", x.like(3, 1), 3);
        due("like(0, 32)", x.like(0, 32), NONE);
        due("like(0, -1)", x.like(0, -1), NONE);
        due("like(5, 0)", x.like(5, 0), NONE);
        due("like(-1, 0)", x.like(-1, 0), NONE);
        promise = 20;
        x.bounds(0, 0, 7);
        due("leader is none: 85 87 88 90 91 93 94", x.ways(2), 7);
        due("85: mirror and back, since the leader is no way", x.signs(0), 12);
        due("94: mirror, back and pace", x.signs(6), 28);
        x.bounds(0, 0, 1);
        due("the one way there is", x.signs(0), 0);
        promise = 25;
        x.bounds(1, 1, 0);
        int[] common = {1, -1, 3, 2};
        for (int what = 0; what < 4; what++) {
            due("common(" + what + ")", x.common(what), common[what]);
        }
        due("common(4)", x.common(4), NOTHING);
        due("common(-1)", x.common(-1), NOTHING);
        x.bounds(24, 0, 0);
        due("the least of like ones", x.common(0), 1);
        x.bounds(0, 0, 0);
        due("without ways", x.common(0), NOTHING);
    }

    private static void mottos() {
        OneLine x = with("step 0 for 2;", "motto late when delay = 1; motto up when high > 0;"
            + "motto low when high < 0; motto same when high = 0;");
        x.bounds(1, 1, 0);
        promise = 22;
        due("means(0, -1)", x.means(0, -1), 3);
        due("means(0, 0)", x.means(0, 0), 2);
        due("means(0, 2)", x.means(0, 2), 4);
        due("means(0, 3)", x.means(0, 3), NONE);
        due("means(0, -2)", x.means(0, -2), NONE);
        due("means(1, 1)", x.means(1, 1), 4);
        due("means(4, -1)", x.means(4, -1), NONE);
        due("means(-1, -1)", x.means(-1, -1), NONE);
        promise = 23;
        int[] due = {5, 3, 2, 1, 2, 1, 0, 0, 1, 1};
        for (int bits = 0; bits < due.length; bits++) {
            due("mean(" + bits + ")", x.mean(bits), due[bits]);
        }
        due("mean(15)", x.mean(15), 0);
        due("mean(16)", x.mean(16), NONE);
        due("mean(-1)", x.mean(-1), NONE);
        promise = 24;
        int[] fewest = {NONE, NONE, 5, 8, 3};
        for (int k = 0; k < 5; k++) {
            due("mottos(" + k + ")", x.mottos(k), fewest[k]);
        }
        due("mottos(5)", x.mottos(5), NONE);
        due("mottos(-1)", x.mottos(-1), NONE);
        promise = 30;
        due("meant(2, 0)", x.meant(2, 0), 3);
        due("meant(3, 0)", x.meant(3, 0), 3);
        due("meant(4, 0)", x.meant(4, 0), 1);
        due("meant(4, 1)", x.meant(4, 1), 0);
        due("meant(2, 4)", x.meant(2, 4), NONE);
        due("meant(2, -1)", x.meant(2, -1), NONE);
        due("meant(1, 0)", x.meant(1, 0), NONE);
        due("meant(5, 0)", x.meant(5, 0), NONE);
        promise = 24;
        x.bounds(1, 0, 0);
        due("no motto at all", x.mottos(0), 0);
        promise = 22;
        book(x, "motto a when mirror = 1; motto b when back = 1; motto c when pace = 2; motto d when high = 0 - 1;");
        x.bounds(1, 1, 15);
        due("mirror", x.means(0, -1), 36);
        due("back", x.means(1, -1), 36);
        due("pace", x.means(2, -1), 24);
        due("high", x.means(3, -1), 24);
        due("all of them", x.mean(15), 2);
    }

    /** The tests of one book, told by the only way there is (delay 1, all else 0). */
    private static void reckoned(boolean want, String... tests) {
        for (String test : tests) {
            OneLine x = with("", "motto a when " + test + ";");
            x.bounds(1, 0, 0);
            due("a when " + test, x.mean(1), want ? 1 : 0);
        }
    }

    private static void reckoning() {
        promise = 23;
        reckoned(true, "7 / 2 = 3", "0 - 7 / 2 = 0 - 3", "(0 - 7) / 2 = 0 - 4", "7 / (0 - 2) = 0 - 4",
            "(0 - 7) / (0 - 2) = 3", "(0 - 6) / 2 = 0 - 3", "5 / 0 = 0", "(0 - 5) / 0 = 0", "2 + 3 * 4 = 14",
            "10 - 3 - 4 = 3", "24 / 4 / 2 = 3", "24 / 4 * 2 = 12", "7 / 2 * 2 = 6", "2 * (3 + 4) = 14");
        reckoned(true, "9999 * 9999 = 1000 * 1000", "0 - 9999 * 9999 = 0 - 1000 * 1000",
            "9999 * 9999 + 1 = 1000 * 1000", "1000 * 1000 - 1 < 1000 * 1000", "1000 * 1000 + 9 - 9 = 999 * 1000 + 991",
            "0 - 1000 * 1000 - 7 = 0 - 1000 * 1000", "(0 - 9999) * 9999 + 1 > 0 - 1000 * 1000");
        reckoned(true, "min (3, 5) = 3", "max(3,5)=5", "min(2 + 3, 4) + max(1, max(2, 9)) = 13", "all", "not not all",
            "not 1 = 2", "1 = 1 or 1 = 2 and 1 = 2", "[1 = 1 or 1 = 2] and 2 = 2", "not 1 = 2 and 1 = 1",
            "not [1 = 2 and 1 = 1]", "not 1 = 1 or 1 = 1", "delay = 1", "high + mirror + back + pace = 0", "0000 = 0",
            "1 < 2", "2 > 1", "9999 = 9999");
        reckoned(false, "not all", "not not not all", "[1 = 1 or 1 = 2] and 1 = 2", "1 < 1", "1 > 1", "1 = 2",
            "not 1 = 1 and 1 = 2", "not [1 = 1 or 1 = 2]", "7 / 2 > 3", "delay = 0", "1 = 2 or 2 = 1 or 3 < 3");
    }

    private static void alike() {
        promise = 27;
        OneLine x = with("step 0 for 2;", "");
        x.bounds(0, 1, 1);
        int[] first = {0, 0, 2, 3, 3};
        for (int k = 0; k < 5; k++) {
            due("alike(" + k + ")", x.alike(k), first[k]);
        }
        due("alike(5)", x.alike(5), NONE);
        due("alike(-1)", x.alike(-1), NONE);
        promise = 28;
        due("unlike()", x.unlike(), 3);
        line(x, "step 0 for 2; step 0 for 2;");
        x.bounds(2, 0, 0);
        due("two delays", x.unlike(), 2);
        line(x, "rest for 2; step 3 for 2;");
        x.bounds(2, 0, 2);
        due("ways", x.ways(2), 5);
        due("none alike", x.unlike(), 5);
        promise = 27;
        x.bounds(4, 0, 6);
        due("unlike", x.unlike() < x.ways(2), true);
        line(x, "step 3 for 2; step 3 for 2;");
        x.bounds(0, 0, 3);
        due("back, mirror, both: all alike", x.alike(2), 0);
        promise = 28;
        due("one song", x.unlike(), 1);
        line(x, "");
        x.bounds(24, 7, 15);
        due("all are silent", x.unlike(), 1);
        x.bounds(0, 0, 0);
        due("without ways", x.unlike(), 0);
    }

    private static void rules() {
        promise = 29;
        OneLine x = with("step 0 for 2;", "bad when gap = 1;");
        x.bounds(1, 1, 0);
        due("ways", x.ways(2), 1);
        due("by it", x.rule(0, false), 4);
        due("without it", x.rule(0, true), 5);
        due("rule(1, false)", x.rule(1, false), NONE);
        due("rule(-1, true)", x.rule(-1, true), NONE);
        book(x, "bad when gap = 1; bad when gap > 0; bad when under = 1;");
        due("by the first", x.rule(0, false), 4);
        due("by the second", x.rule(1, false), 0);
        due("without the first", x.rule(0, true), 1);
        due("without the second", x.rule(1, true), 1);
        book(x, "bad when gap = 1 and under = 1; bad when gap = 1 and beat = 1;");
        due("ways", x.ways(2), 2);
        due("by the first", x.rule(0, false), 2);
        due("by the second", x.rule(1, false), 1);
        due("without the first: 72 more", x.rule(0, true), 3);
        due("without the second: 276 more", x.rule(1, true), 3);
        line(x, "step 0 for 2; step 1 for 2;");
        x.bounds(0, 2, 0);
        book(x, "bad when gap = 1 and beat = 0; bad when gap = 1 and beat = 2;");
        due("all of gap 1 are broken by both", x.rule(0, false), 2);
        due("so none is spared", x.rule(0, true), 2);
        book(x, "bad when was = 1;");
        due("sort in the tick ahead is by the height, too", x.ways(2), 2);
        due("they are two away", x.way(2, 0, 0) * 10000 + x.way(2, 1, 0), 600108);
        line(x, "step 0 for 2; step 0 for 1;");
        x.bounds(0, 1, 8);
        book(x, "bad when all;");
        due("those that can't be have none", x.rule(0, false), 2);
        due("nor are they ways", x.rule(0, true), 2);
    }

    private static void rounds() {
        promise = 31;
        OneLine x = with("step 0 for 1; step 1 for 1;", "bad when gap = 1;");
        due("delay 1", x.round(264), 1);
        due("delay 2", x.round(444), NONE);
        due("delay 3", x.round(624), 3);
        due("back", x.round(87), 0);
        due("half", x.round(265), NONE);
        due("double", x.round(266), NONE);
        due("none such", x.round(-1), NONE);
        due("none such", x.round(4500), NONE);
        line(x, "step 0 for 2;");
        book(x, "bad when all;");
        due("one note never begins", x.round(264), NONE);
        due("a breach there is", x.breach(84, 264, 0), 1);
        line(x, "");
        due("no notes", x.round(264), NONE);
        line(x, "step 0 for 2; step 1 for 2;");
        String[] tests = {"all", "was = 1 and gap = 0", "was = 7", "last = 1", "beat = 3", "beat = 0", "climb < 0", "rise > 0"};
        int[] due = {1, 1, NONE, NONE, 3, 4, 1, 2};
        for (int i = 0; i < tests.length; i++) {
            book(x, "bad when " + tests[i] + ";");
            due("round(264) by " + tests[i], x.round(264), due[i]);
        }
        book(x, "bad when beat = 0;");
        due("delay 5", x.round(x.code(5, 0, 0, 0, 0)), 8);
        line(x, "step 0 for 2; rest for 2;");
        book(x, "bad when all;");
        due("in turns they never both sing", x.round(444), NONE);
        due("at once", x.round(96), 0);
        book(x, "bad when was < 7;");
        due("silent in the tick ahead", x.round(96), NONE);
    }

    private static void made() {
        promise = 32;
        OneLine x = with("step 9 for 3;", "bad when gap = 0;");
        due("make(264, 2, 4)", x.make(264, 2, 4), 0);
        due("the line stays", x.note(0, 0), 9);
        due("make(276, 2, 1)", x.make(276, 2, 1), 1);
        due("one, nought", x.note(0, 0) * 10 + x.note(1, 0), 10);
        due("of two ticks", x.note(1, 1) * 10 + x.has(2), 24);
        due("make(276, 2, 2)", x.make(276, 2, 2), 1);
        due("nought, two", x.note(0, 0) * 10 + x.note(1, 0), 2);
        due("make(278, 1, 0)", x.make(278, 1, 0), 1);
        due("make(276, 2, 0)", x.make(276, 2, 0), 0);
        due("make(276, 6, 4)", x.make(276, 6, 4), 1);
        due("0 2 0 2 0 2", x.note(5, 0) * 100 + x.note(4, 0) * 10 + x.has(0), 206);
        book(x, "bad when rise < 0 or rise > 0;");
        due("no two alike", x.make(96, 2, 4), 0);
        due("the line stays", x.has(0), 6);
        book(x, "bad when gap = 0;");
        int[][] none = {{84, 2, 2}, {-1, 2, 2}, {4500, 2, 2}, {276, 0, 2}, {276, 7, 2}, {276, 2, -1}, {276, 2, 5}};
        for (int[] row : none) {
            due("make(" + row[0] + ", " + row[1] + ", " + row[2] + ")", x.make(row[0], row[1], row[2]), NONE);
        }
        promise = 33;
        due("shortest(264, 4)", x.shortest(264, 4), NONE);
        due("shortest(276, 1)", x.shortest(276, 1), 2);
        due("the line stays", x.has(0), 6);
        due("shortest(276, 0)", x.shortest(276, 0), NONE);
        due("shortest(276, -1)", x.shortest(276, -1), NONE);
        due("shortest(276, 5)", x.shortest(276, 5), NONE);
        due("shortest(84, 2)", x.shortest(84, 2), NONE);
        due("shortest(-1, 2)", x.shortest(-1, 2), NONE);
        due("shortest(4500, 2)", x.shortest(4500, 2), NONE);
        book(x, "bad when last = 1 and beat = 3;");
        due("shortest(624, 1)", x.shortest(624, 1), 3);
        book(x, "bad when last = 1;");
        due("shortest(624, 4)", x.shortest(624, 4), NONE);
    }

    private static void richest() {
        promise = 34;
        OneLine x = with("step 9 for 3;", "");
        x.bounds(24, 7, 15);
        due("all of them", x.richest(1, 0, 0), 4499);
        due("the line stays", x.note(0, 0), 9);
        due("none such", x.richest(2, 0, 0), NONE);
        due("none such", x.richest(2, 0, 1), NONE);
        due("the line stays", x.note(0, 0), 9);
        int[][] none = {{0, 1, 0}, {5, 1, 0}, {1, -1, 0}, {1, 3, 0}, {1, 1, 2}, {1, 1, -1}};
        for (int[] row : none) {
            due("richest(" + row[0] + ", " + row[1] + ", " + row[2] + ")", x.richest(row[0], row[1], row[2]), NONE);
        }
        x.bounds(0, 1, 0);
        book(x, "bad when all;");
        due("none has ways", x.richest(3, 2, 0), 0);
        due("the first", x.richest(3, 2, 1), 3);
        due("0 1 0", x.note(0, 0) * 100 + x.note(1, 0) * 10 + x.note(2, 0), 10);
        book(x, "bad when rise > 0 or rise < 0 - 1;");
        due("one, nought has two", x.richest(2, 2, 0), 2);
        due("it is the line", x.richest(2, 2, 1), 2);
        due("1 0", x.note(0, 0) * 10 + x.note(1, 0), 10);
        due("and its ways", x.ways(2), 2);
    }

    private static void wrongNotes() {
        promise = 35;
        OneLine x = with("rest for 2; step 0 for 2; step 1 for 2;", "bad when sort = 1 or sort = 6;");
        due("wrong(444, -1)", x.wrong(444, -1), 41);
        due("wrong(444, 0)", x.wrong(444, 0), 101);
        due("wrong(444, 1)", x.wrong(444, 1), 103);
        due("wrong(444, 19)", x.wrong(444, 19), 127);
        due("wrong(444, 20)", x.wrong(444, 20), 200);
        due("wrong(444, 40)", x.wrong(444, 40), 228);
        due("wrong(444, 41)", x.wrong(444, 41), NONE);
        due("wrong(444, -2)", x.wrong(444, -2), NONE);
        due("no breach", x.wrong(x.code(6, 0, 0, 0, 0), -1), NONE);
        due("the leader", x.wrong(84, -1), NONE);
        due("none such", x.wrong(4500, -1), NONE);
        due("none such", x.wrong(-1, -1), NONE);
        due("the line stays", x.note(0, 0) * 100 + x.note(1, 0) * 10 + x.note(2, 0), -99);
        x.change(2, 2);
        due("mended", x.wrong(444, -1), NONE);
        book(x, "bad when gap < 20;");
        due("one alone is changed", x.wrong(444, -1), 16);
        due("note 1: from 22 on", x.wrong(444, 0), 122);
        due("note 2: from 20 on", x.wrong(444, 7), 220);
        book(x, "bad when all;");
        due("none mends it", x.wrong(444, -1), 0);
        due("none mends it", x.wrong(444, 0), NONE);
        line(x, "step 0 for 1; step 1 for 1;");
        due("can't be", x.wrong(86, -1), NONE);
    }

    private static void changed() {
        promise = 36;
        OneLine x = with("rest for 2; step 5 for 2;", "bad when gap = 3;");
        due("change(1, 28)", x.change(1, 28), 5);
        due("step", x.note(1, 0), 28);
        due("change(0, 25)", x.change(0, 25), -2);
        due("no rests", x.has(1), 0);
        due("first step", x.has(6), 25);
        due("ticks stay", x.note(0, 1), 2);
        due("heard at once", x.breach(84, 444, 0), 2);
        due("change(0, 0)", x.change(0, 0), 25);
        due("mirrored by it", x.sings(90, 2), -28);
        due("change(2, 0)", x.change(2, 0), NONE);
        due("change(-1, 0)", x.change(-1, 0), NONE);
        due("change(0, 29)", x.change(0, 29), NONE);
        due("change(0, -1)", x.change(0, -1), NONE);
        due("all stays", x.note(0, 0) * 100 + x.note(1, 0), 28);
        x.bounds(2, 0, 0);
        due("ways", x.ways(2), 2);
        x.change(1, 3);
        due("ways then", x.ways(2), 0);
    }

    private static void drawn() {
        promise = 37;
        OneLine x = with("rest for 1;", "");
        due("draw(1, 4, 1)", x.draw(1, 4, 1), 4);
        due("its step", x.note(0, 0), 3);
        due("its ticks", x.note(0, 1), 4);
        x.draw(1, 4, -1);
        due("a seed below 0", x.note(0, 0), 4);
        long seed = 77;
        int total = 0;
        int given = x.draw(24, 28, 77);
        for (int n = 0; n < 24; n++) {
            seed = (1103515245L * seed + 12345) % (1L << 31);
            due("step of " + n, x.note(n, 0), seed / 64 % 29);
            seed = (1103515245L * seed + 12345) % (1L << 31);
            due("ticks of " + n, x.note(n, 1), "1224".charAt((int) (seed / 64 % 4)) - '0');
            total += x.note(n, 1);
        }
        due("ticks", given, total);
        int[][] none = {{0, 4, 1}, {25, 4, 1}, {3, -1, 1}, {3, 29, 1}};
        for (int[] row : none) {
            due("draw(" + row[0] + ", " + row[1] + ", 1)", x.draw(row[0], row[1], row[2]), NONE);
        }
        due("the line stays", x.has(0), 24);
        due("range 0", x.draw(2, 0, 5) > 0 && x.note(0, 0) == 0 && x.note(1, 0) == 0, true);
    }

    private static boolean taken(OneLine x, int... bytes) {
        StringBuilder text = new StringBuilder();
        for (int b : bytes) {
            text.append((char) b);
        }
        x.end(0);
        Texts.feed(x, text.toString());
        return x.on();
    }

    /** Bytes with the last one that is due behind them. */
    private static int[] sealed(int... bytes) {
        int c = 23;
        int[] all = java.util.Arrays.copyOf(bytes, bytes.length + 1);
        for (int b : bytes) {
            c = (7 * c + b) % 251;
        }
        all[bytes.length] = c;
        return all;
    }

    private static int[] notes(int n, int ticks) {
        int[] bytes = new int[2 * n + 1];
        bytes[0] = n;
        for (int i = 0; i < n; i++) {
            bytes[2 * i + 1] = i;
            bytes[2 * i + 2] = ticks;
        }
        return sealed(bytes);
    }

    private static void images() {
        promise = 38;
        OneLine x = with("step 5 for 3;", "bad when all;");
        due("image()", x.image(), 4);
        promise = 39;
        int[] due = {1, 5, 3, 195};
        for (int k = 0; k < 4; k++) {
            due("octet(" + k + ")", x.octet(k), due[k]);
        }
        due("octet(4)", x.octet(4), NONE);
        due("octet(-1)", x.octet(-1), NONE);
        line(x, "rest for 3; step 28 for 1;");
        due("the latest image stays", x.octet(1), 5);
        due("image()", x.image(), 6);
        due("a rest", x.octet(1), 255);
        line(x, times(24, "step 28 for 4;"));
        due("the longest", x.image(), 50);
        due("its last byte", x.octet(49) >= 0 && x.octet(50) == NONE, true);
        promise = 40;
        due("a rest", taken(x, 1, 255, 3, 188), true);
        due("a rest is the line", x.note(0, 0) * 10 + x.note(0, 1), -7);
        due("the book stays", x.has(3), 1);
        due("no notes", taken(x, 0, 161), true);
        due("no notes are the line", x.has(0), 0);
        due("24 notes", taken(x, notes(24, 4)), true);
        due("24 notes are the line", x.note(23, 0), 23);
        due("step 28, 16 ticks", taken(x, sealed(1, 28, 16)), true);
        due("step 29", taken(x, sealed(1, 29, 3)), false);
        due("step 254", taken(x, sealed(1, 254, 3)), false);
        due("no ticks", taken(x, sealed(1, 5, 0)), false);
        due("17 ticks", taken(x, sealed(1, 5, 17)), false);
        due("25 notes", taken(x, notes(25, 1)), false);
        due("96 ticks", taken(x, notes(6, 16)), true);
        due("98 ticks", taken(x, notes(7, 14)), false);
        due("a wrong last byte", taken(x, 1, 5, 3, 196), false);
        due("one byte more", taken(x, 1, 5, 3, 195, 0), false);
        due("one byte fewer", taken(x, 1, 5, 3), false);
        due("fewer than told", taken(x, sealed(2, 5, 3)), false);
        due("no bytes", taken(x), false);
        due("one byte", taken(x, 0), false);
        due("all stays", x.has(0), 6);
        Texts.feed(x, "abc");
        due("no image", x.on(), false);
        due("the tape goes", x.feed(0, 0, 0, 0, 0), 20);
    }
}
