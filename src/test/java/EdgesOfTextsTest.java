/** The boundary cases of the line and the book with their faults, and of promises 1 to 10. */
public final class EdgesOfTextsTest {
    private static final int NONE = Edge.NONE;
    private static final String BLANKS = "                    ";
    private static final String[] OWN_WORDS = {
        "step", "for", "rest", "measure", "bad", "motto", "when", "or", "and", "not", "all", "gap", "sort", "under",
        "beat", "rise", "climb", "was", "last", "delay", "high", "mirror", "back", "pace", "min", "max",
    };
    private static final String[] OF_RULE = {"gap", "sort", "under", "beat", "rise", "climb", "was", "last"};
    private static final String[] OF_MOTTO = {"delay", "high", "mirror", "back", "pace"};
    private static final String SIX_MOTTOS = "motto a when all;motto b when all;motto c when all;"
        + "motto d when all;motto e when all;motto f when all;";

    private EdgesOfTextsTest() {
    }

    public static void main(String[] args) {
        statementsOfTheLine();
        stepsAndTicks();
        ticksTogether();
        statementsOfTheBook();
        measures();
        rulesAndMottos();
        names();
        tests();
        parts();
        factsOfEach();
        reckoning();
        blanks();
        faultOne();
        tooSoon();
        faultTwo();
        faultThree();
        faultFour();
        faultFive();
        firstAlong();
        newObject();
        feed();
        end();
        readLine();
        readBook();
        fault();
        has();
        letter();
        note();
        bounds();
        Edge.finish(1, 10);
    }

    private static void statementsOfTheLine() {
        Edge.says(Edge.TERMS, "THE LINE is a text: { STATEMENT ; } (24 at most)");
        Edge.goodLine(0, "");
        Edge.goodLine(0, " ");
        Edge.goodLine(0, "\n");
        Edge.goodLine(1, "rest for 1;");
        Edge.goodLine(23, Edge.times(23, "rest for 1;"));
        Edge.goodLine(24, Edge.times(24, "rest for 1;"));
        Edge.goodLine(24, Edge.times(24, "step 9 for 4;") + " \n ");
        Edge.lineFault(5, Edge.times(24, "rest for 1;") + "^rest for 1;");
        Edge.lineFault(1, "rest for 1^");
        Edge.lineFault(1, "rest for 1;^;");
        Edge.lineFault(1, "^; rest for 1;");
        Edge.lineFault(1, "rest for 1^, rest for 1;");
    }

    private static void stepsAndTicks() {
        Edge.says(Edge.TERMS, "step N for N, or rest for N (0 .. 28; TICKS 1 .. 16;");
        for (int step = 0; step <= 28; step++) {
            OneLine x = Edge.with("step " + step + " for 2;", "");
            Edge.due("the step", x.note(0, 0), step);
        }
        for (int ticks = 1; ticks <= 16; ticks++) {
            OneLine x = Edge.with("step 3 for " + ticks + ";rest for " + ticks + ";", "");
            Edge.due("ticks of the note", x.note(0, 1), ticks);
            Edge.due("ticks of the rest", x.note(1, 1), ticks);
            Edge.due("the rest", x.note(1, 0), NONE);
        }
        Edge.lineFault(2, "step ^29 for 2;");
        Edge.lineFault(2, "step ^100 for 2;");
        Edge.lineFault(2, "step ^9999 for 2;");
        Edge.lineFault(2, "step 3 for ^0;");
        Edge.lineFault(2, "step 3 for ^0000;");
        Edge.lineFault(2, "step 3 for ^17;");
        Edge.lineFault(2, "rest for ^0;");
        Edge.lineFault(2, "rest for ^17;");
        Edge.lineFault(2, "rest for ^9999;");
        Edge.lineFault(1, "step ^-1 for 2;");
        Edge.lineFault(1, "step ^for 2;");
        Edge.lineFault(1, "rest ^3 for 2;");
        Edge.goodLine(2, "step 0028 for 0016; step 0000 for 0001;");
    }

    private static void ticksTogether() {
        Edge.says(Edge.TERMS, "all TICKS together 96 at most: a number by which they come above that can't be");
        String five = Edge.times(5, "rest for 16;");
        Edge.goodLine(6, five + "step 1 for 16;");
        Edge.goodLine(7, five + "rest for 15;step 1 for 1;");
        Edge.goodLine(24, Edge.times(24, "step 1 for 4;"));
        Edge.lineFault(2, five + "rest for 15;step 1 for ^2;");
        Edge.lineFault(2, five + "rest for 15;rest for ^16;");
        Edge.lineFault(2, five + "rest for 16;rest for ^1;");
        Edge.lineFault(2, five + "rest for 16;step 1 for ^1;");
        Edge.lineFault(2, Edge.times(23, "step 1 for 4;") + "step 1 for ^5;");
        Edge.lineFault(1, five + "rest for 16;rest for 1234^5;");
        Edge.lineFault(2, five + "rest for 16;step ^29 for 1;");
        OneLine x = Edge.with("step 7 for 3;", "");
        Edge.due("97 ticks", Edge.line(x, five + "rest for 15;step 1 for 2;"), NONE);
        Edge.due("the line stays", x.has(2), 3);
        Edge.due("96 ticks", Edge.line(x, five + "rest for 15;step 1 for 1;"), 7);
        Edge.due("they are the line's", x.has(2), 96);
    }

    private static void statementsOfTheBook() {
        Edge.says(Edge.TERMS, "THE BOOK is a text: { STATEMENT ; } (60 at most)");
        Edge.goodBook(0, "");
        Edge.goodBook(0, "\n \n");
        Edge.goodBook(1, "measure 3;");
        Edge.goodBook(59, Edge.times(59, "measure 3;"));
        Edge.goodBook(60, Edge.times(60, "measure 3;") + "\n");
        Edge.goodBook(60, Edge.times(12, "bad when all;") + SIX_MOTTOS + Edge.times(42, "measure 3;"));
        Edge.bookFault(5, Edge.times(60, "measure 3;") + "^measure 3;");
        Edge.bookFault(1, "measure 3;^;");
        Edge.bookFault(1, "^;");
        Edge.bookFault(1, "measure 3^");
        Edge.bookFault(1, "^step 1 for 1;");
        Edge.lineFault(1, "^measure 3;");
    }

    private static void measures() {
        Edge.says(Edge.TERMS, "measure N (2 .. 12; the last one counts; 4 without)");
        OneLine x = new OneLine();
        for (int measure = 2; measure <= 12; measure++) {
            Edge.due("book", Edge.book(x, "measure " + measure + ";"), 1);
            Edge.due("has(5)", x.has(5), measure);
        }
        Edge.bookFault(2, "measure ^0;");
        Edge.bookFault(2, "measure ^1;");
        Edge.bookFault(2, "measure ^13;");
        Edge.bookFault(2, "measure ^9999;");
        Edge.bookFault(1, "measure ^;");
        Edge.goodBook(1, "measure 0012;");
        Edge.due("three", Edge.book(x, "measure 9; bad when all; measure 2; measure 7;"), 4);
        Edge.due("the last one", x.has(5), 7);
        Edge.due("a fault behind a measure", Edge.book(x, "measure 9; measure 13;"), NONE);
        Edge.due("it stays", x.has(5), 7);
        Edge.due("without", Edge.book(x, "bad when all;"), 1);
        Edge.due("four", x.has(5), 4);
        Edge.book(x, "measure 9;");
        Edge.due("an empty book", Edge.book(x, ""), 0);
        Edge.due("four", x.has(5), 4);
    }

    private static void rulesAndMottos() {
        Edge.says(Edge.TERMS, "bad when TEST (12 RULES); motto NAME when TEST (6 MOTTOS)");
        String rules = Edge.times(12, "bad when all;");
        OneLine x = Edge.with("", rules);
        Edge.due("twelve", x.has(3), 12);
        Edge.due("and six", Edge.book(x, SIX_MOTTOS + rules), 18);
        Edge.due("twelve", x.has(3), 12);
        Edge.due("six", x.has(4), 6);
        Edge.goodBook(19, rules + SIX_MOTTOS + "measure 2;");
        Edge.bookFault(5, rules + "^bad when all;");
        Edge.bookFault(5, SIX_MOTTOS + "^motto g when all;");
        Edge.bookFault(5, rules + SIX_MOTTOS + "measure 3; ^bad when all;");
        Edge.bookFault(5, SIX_MOTTOS + rules + "measure 3;\n^motto g when all;");
        Edge.goodBook(18, rules.substring(13) + SIX_MOTTOS + "bad when all;");
        Edge.bookFault(1, "bad ^all;");
        Edge.bookFault(1, "bad when^;");
        Edge.bookFault(1, "motto ^when all;");
        Edge.bookFault(1, "motto a ^all;");
        Edge.bookFault(1, "motto a when^;");
        Edge.bookFault(1, "bad ^a when all;");
    }

    private static void names() {
        Edge.says(Edge.TERMS, "NAMES: 1 to 6 letters, no OWN WORD, unlike ones.");
        Edge.goodBook(1, "motto z when all;");
        Edge.goodBook(1, "motto abcdef when all;");
        Edge.bookFault(1, "motto abcdef^g when all;");
        Edge.bookFault(1, "motto abcdef^ghijklmnopq when all;");
        Edge.bookFault(1, "motto ^; when all;");
        Edge.bookFault(1, "motto ^1a when all;");
        Edge.bookFault(1, "motto ^A when all;");
        Edge.bookFault(1, "motto ab^C when all;");
        for (String own : OWN_WORDS) {
            Edge.bookFault(1, "motto ^" + own + " when all;");
            if (own.length() < 6) {
                Edge.goodBook(1, "motto " + own + "s when all;");
                Edge.goodBook(1, "motto x" + own + " when all;");
            }
            Edge.goodBook(1, "motto " + own.substring(0, own.length() - 1) + " when all;");
        }
        Edge.bookFault(1, "motto measur^es when all;");
        Edge.bookFault(1, "motto mirror^s when all;");
        Edge.goodBook(3, "motto ab when all;motto a when all;motto abc when all;");
        Edge.goodBook(2, "motto ab when all;motto ba when all;");
        Edge.bookFault(3, "motto ab when all;motto b when all;motto ^ab when all;");
        Edge.bookFault(3, "motto abcdef when all;motto ^abcdef when all;");
        Edge.goodBook(2, "motto abcdef when all;motto abcdeg when all;");
        OneLine x = Edge.with("", "motto ab when all;");
        Edge.due("a name of an earlier book", Edge.book(x, "motto ab when all;"), 1);
    }

    private static void tests() {
        Edge.says(Edge.TERMS, "TEST: BOTH { or BOTH }. BOTH: FACT { and FACT }. FACT: not FACT; [ TEST ] ; all;"
            + " SUM SIGN SUM, SIGN < or > or = .");
        Edge.goodBook(1, "bad when all or all and all or not all and [all or all];");
        Edge.goodBook(1, "bad when" + Edge.times(100, " all and") + " all;");
        Edge.goodBook(1, "bad when" + Edge.times(100, " all or") + " 1=1;");
        Edge.bookFault(1, "bad when all or^;");
        Edge.bookFault(1, "bad when all and ^or all;");
        Edge.bookFault(1, "bad when ^or all;");
        Edge.bookFault(1, "bad when all ^not all;");
        Edge.bookFault(1, "bad when all ^all;");
        Edge.bookFault(1, "bad when not^;");
        Edge.bookFault(1, "bad when [^];");
        Edge.bookFault(1, "bad when [all^);");
        Edge.bookFault(1, "bad when [all^;");
        Edge.bookFault(1, "bad when [all]^];");
        Edge.bookFault(1, "bad when all ^= 1;");
        Edge.bookFault(1, "bad when 1^;");
        Edge.bookFault(1, "bad when 1 ^and all;");
        Edge.bookFault(1, "bad when 1 =^;");
        Edge.bookFault(1, "bad when 1 = ^all;");
        Edge.bookFault(1, "bad when 1 = ^not 1;");
        Edge.bookFault(1, "bad when 1 = ^[1 = 1];");
        Edge.bookFault(1, "bad when 1 <^= 2;");
        Edge.bookFault(1, "bad when 1 <^> 2;");
        Edge.bookFault(1, "bad when 1 =^= 2;");
        Edge.bookFault(1, "bad when 1 < 2 ^< 3;");
        Edge.bookFault(1, "bad when [1 ^] = 1;");
        Edge.bookFault(1, "bad when (^all) = 1;");
        Edge.bookFault(1, "bad when (1 ^= 1);");
    }

    private static void parts() {
        Edge.says(Edge.TERMS, "SUM: PRODUCT { + or - PRODUCT }. PRODUCT: PART { * or / PART }. PART: N (1 to 4 digits);");
        Edge.goodBook(1, "bad when 0 < 9999;");
        Edge.goodBook(1, "bad when 0000 = 0;");
        Edge.goodBook(1, "bad when 1+2-3*4/5=(6)-min(7,8)+max(9,10)*((1));");
        Edge.goodBook(1, "bad when " + Edge.times(300, "1+") + "1 = 2;");
        Edge.goodBook(1, "bad when " + Edge.times(300, "1*") + "1 = 2;");
        Edge.bookFault(1, "bad when 1000^0 = 1;");
        Edge.bookFault(1, "bad when 1 = 0000^0;");
        Edge.bookFault(1, "bad when 9999^999999 = 1;");
        Edge.bookFault(1, "bad when ^+1 = 1;");
        Edge.bookFault(1, "bad when ^-1 = 1;");
        Edge.bookFault(1, "bad when 1 + ^- 1 = 1;");
        Edge.bookFault(1, "bad when 1 * ^* 1 = 1;");
        Edge.bookFault(1, "bad when 1 + ^= 1;");
        Edge.bookFault(1, "bad when 1 = 1 /^;");
        Edge.bookFault(1, "bad when (^) = 1;");
        Edge.bookFault(1, "bad when (1 ^= 1;");
        Edge.bookFault(1, "bad when (1^] = 1;");
        Edge.bookFault(1, "bad when 1^) = 1;");
        Edge.bookFault(1, "bad when min ^1 = 1;");
        Edge.bookFault(1, "bad when min (1^) = 1;");
        Edge.bookFault(1, "bad when min (1 ^2) = 1;");
        Edge.bookFault(1, "bad when min (1, 2^, 3) = 1;");
        Edge.bookFault(1, "bad when max (^, 2) = 1;");
        Edge.bookFault(1, "bad when max (1, ^) = 1;");
        Edge.bookFault(1, "bad when max ^[1, 2] = 1;");
        Edge.bookFault(1, "bad when 1 ^1 = 1;");
        Edge.bookFault(1, "bad when ^name = 1;");
    }

    private static void factsOfEach() {
        Edge.says(Edge.TERMS, "of a RULE gap, sort, under, beat, rise, climb, was, last; of a MOTTO delay, high, mirror, back, pace;");
        for (String fact : OF_RULE) {
            Edge.goodBook(1, "bad when " + fact + " = 1;");
            Edge.goodBook(1, "bad when 1 = " + fact + ";");
            Edge.bookFault(1, "motto a when ^" + fact + " = 1;");
            Edge.bookFault(1, "bad when all; motto a when 1 < max (2, ^" + fact + ");");
        }
        for (String fact : OF_MOTTO) {
            Edge.goodBook(1, "motto a when " + fact + " = 1;");
            Edge.bookFault(1, "bad when ^" + fact + " = 1;");
            Edge.bookFault(1, "motto a when all; bad when 1 + ^" + fact + " = 1;");
        }
        Edge.goodBook(2, "motto a when pace = 1; bad when gap = 1;");
    }

    /** Whether a motto with this test means the only way that there is: delay 1, all else 0. */
    private static void holds(boolean want, String test) {
        OneLine x = Edge.with("", "motto a when " + test + ";");
        x.bounds(1, 0, 0);
        Edge.due(test, x.mean(1), want ? 1 : 0);
    }

    private static void reckoning() {
        Edge.says(Edge.TERMS, "All from the left on; / gives the greatest whole number not above, by 0 it gives 0;");
        String[] right = {
            "9 - 4 - 3 = 2", "9 - 4 + 3 = 8", "36 / 6 / 3 = 2", "7 / 2 * 2 = 6", "2 * 7 / 4 = 3", "1 + 2 * 3 = 7",
            "7 / 7 = 1", "6 / 7 = 0", "0 / 7 = 0", "(0 - 1) / 7 = 0 - 1", "(0 - 7) / 7 = 0 - 1", "(0 - 8) / 7 = 0 - 2",
            "1 / (0 - 7) = 0 - 1", "7 / (0 - 7) = 0 - 1", "(0 - 1) / (0 - 7) = 0", "9999 / 0 = 0", "(0 - 9999) / 0 = 0",
            "0 / 0 = 0", "1 / high = 0", "9999 * 9999 / (1 - 1) = 0", "1 = 1 or 1 = 1 and 1 = 2",
            "1 = 2 and 1 = 1 or 1 = 1", "not 1 = 2 and 1 = 1", "not 1 = 1 or 1 = 1",
        };
        for (String test : right) {
            holds(true, test);
        }
        holds(false, "1 = 1 and 1 = 2 or 1 = 2");
        holds(false, "[1 = 1 or 1 = 1] and 1 = 2");
        holds(false, "not [1 = 1 or 1 = 2]");
        holds(false, "1 < 1");
        holds(false, "1 > 1");
        Edge.says(Edge.TERMS, "each sum, difference, product above 10 to the 6 is that, below -10 to the 6 likewise.");
        String top = "1000 * 1000";
        String[] bounded = {
            top + " - 1 = 999 * 1001", top + " = 2000 * 500", "1001 * 1000 = " + top, "9999 * 9999 = " + top,
            top + " + 1 = " + top, top + " + 1 - 1 < " + top, top + " + " + top + " = " + top,
            "0 - " + top + " - 1 = 0 - " + top, "0 - " + top + " - 1 + 1 > 0 - " + top, "(0 - 1001) * 1000 = 0 - " + top,
            "(0 - 1001) * (0 - 1000) = " + top, "0 - " + top + " < 1 - " + top, "999 * 1001 + 1 = " + top,
            "999 * 1001 < " + top, "9999 * 9999 * 0 = 0", "9999 * 9999 / 1000 = 1000", "9999 * 9999 * 9999 * 9999 = " + top,
            "(0 - 9999 * 9999) * (9999 * 9999) = 0 - " + top, "max (9999 * 9999, 1) = " + top,
            "min (0 - 9999 * 9999, 1) = 0 - " + top, "(0 - 9999 * 9999) / (0 - 1) = " + top,
        };
        for (String test : bounded) {
            holds(true, test);
        }
    }

    private static void blanks() {
        Edge.says(Edge.TERMS, "Blanks (10, 32) are where one likes (words and numbers side by side need one).");
        Edge.goodLine(2, "\n step\n1 \nfor  2\n;\n\nrest\nfor\n2 ; \n");
        Edge.goodBook(2, "bad when[gap<(2)]and[not 1=2]or all;motto a when min(1,2)=max(1,2);");
        Edge.goodBook(1, "bad\nwhen [ gap < ( 2 ) ] and min ( 1 , 2 ) = 1 ;");
        Edge.goodBook(1, "bad when not[all]and(1)=1 or[all];");
        int[] others = {0, 9, 11, 13, 31, 33, 95, 127, 160, 255};
        for (int other : others) {
            Edge.lineFault(1, "step^" + (char) other + "1 for 2;");
            Edge.bookFault(1, "^" + (char) other + "measure 2;");
        }
        Edge.lineFault(1, "step^1 for 2;");
        Edge.lineFault(1, "step 1^for 2;");
        Edge.lineFault(1, "step 1 for^2;");
        Edge.lineFault(1, "rest^2;");
        Edge.lineFault(1, "rest for 2;^restfor 2;");
        Edge.lineFault(1, "^steprest");
        Edge.bookFault(1, "measure^2;");
        Edge.bookFault(1, "bad when^1 = 1;");
        Edge.bookFault(1, "bad when 1 = 1^or all;");
        Edge.bookFault(1, "bad when 1 = 1^and all;");
        Edge.bookFault(1, "bad when not^1 = 1;");
        Edge.bookFault(1, "bad when gap^1 = 1;");
        Edge.bookFault(1, "bad when 1^gap = 1;");
        Edge.bookFault(1, "bad when ^notall;");
        Edge.bookFault(1, "motto a^1 when all;");
        Edge.bookFault(1, "^mottoa when all;");
        Edge.bookFault(1, "motto awhen ^all;");
    }

    private static void faultOne() {
        Edge.says(Edge.TERMS, "1 the first byte with which no such text goes on (words and numbers whole, at their first byte;");
        Edge.lineFault(1, "^s");
        Edge.lineFault(1, "^ste");
        Edge.lineFault(1, "^stepp 1 for 2;");
        Edge.lineFault(1, "^stEp 1 for 2;");
        Edge.lineFault(1, "^STEP 1 for 2;");
        Edge.lineFault(1, "^for 2;");
        Edge.lineFault(1, "^7");
        Edge.lineFault(1, "step 1 ^fo");
        Edge.lineFault(1, "step 1 ^form 2;");
        Edge.lineFault(1, "step 1 ^12345 for 2;");
        Edge.lineFault(1, "rest for ^two;");
        Edge.lineFault(1, "rest for 2^.;");
        Edge.bookFault(1, "bad when ^gaps = 1;");
        Edge.bookFault(1, "bad when ^abcdefghi = 1;");
        Edge.bookFault(1, "bad when all ^orr all;");
        Edge.bookFault(1, "bad when all ^12345");
        Edge.says(Edge.TERMS, "where a NAME is asked, an OWN WORD so, a 7th letter at itself; a 5th digit at itself;");
        Edge.bookFault(1, "motto ^all when all;");
        Edge.bookFault(1, "motto ^motto motto all;");
        Edge.bookFault(1, "motto ^measure when all;");
        Edge.bookFault(1, "motto allall^a when all;");
        Edge.bookFault(1, "motto abcdef^g");
        Edge.lineFault(1, "step 0000^0 for 2;");
        Edge.lineFault(1, "step 9999^9");
        Edge.lineFault(1, "rest for 0001^6;");
        Edge.bookFault(1, "measure 0000^4;");
    }

    private static void tooSoon() {
        Edge.says(Edge.TERMS, "at the text's length, if it ends too soon)");
        String[] lines = {"step^", "step ^", "step 1^", "step 1\n\n^", "step 1 for^", "step 1 for 2^", "rest^", "rest for ^",
            "rest for 2 \n ^", "rest for 2; rest for 2^"};
        for (String text : lines) {
            Edge.lineFault(1, text);
        }
        String[] books = {"measure^", "measure 4 ^", "bad^", "bad when ^", "bad when all^", "bad when not^", "bad when [ ^",
            "bad when [all^", "bad when gap^", "bad when gap = ^", "bad when gap = 1^", "bad when gap + ^", "bad when (^",
            "bad when (1 ^", "bad when min^", "bad when min (1^", "bad when min (1,^", "bad when min (1, 2^",
            "bad when all or ^", "bad when all and^", "motto^", "motto a^", "motto abcdef^", "motto a when\n^"};
        for (String text : books) {
            Edge.bookFault(1, text);
        }
        String full = Edge.times(79, BLANKS) + "rest for 16         ^";
        Edge.lineFault(1, full);
    }

    private static void faultTwo() {
        Edge.says(Edge.TERMS, "2 a number (of 1 to 4 digits) that can't be, at it;");
        Edge.lineFault(2, "step ^29");
        Edge.lineFault(2, "step ^0029 for 1;");
        Edge.lineFault(2, "step \n^9999");
        Edge.lineFault(1, "step 9999^0 for 1;");
        Edge.lineFault(2, "step ^29for 1;");
        Edge.lineFault(2, "step 28 for ^17x");
        Edge.lineFault(2, "step 28 for ^0");
        Edge.bookFault(2, "measure ^13x");
        Edge.bookFault(2, "measure 3; measure ^0001;");
        Edge.bookFault(1, "measure 0001^3;");
        Edge.goodBook(1, "bad when 0 = 9999;");
    }

    private static void faultThree() {
        Edge.says(Edge.TERMS, "3 a NAME that is there already, at it;");
        Edge.bookFault(3, "motto a when all; motto  ^a");
        Edge.bookFault(3, "motto a when all; motto ^a when gap = 1;");
        Edge.bookFault(3, "motto a when all; motto ^a1 when all;");
        Edge.bookFault(3, "motto abcdef when all; bad when all; motto ^abcdef when all;");
        Edge.bookFault(1, "motto abcdef when all; motto abcdef^f when all;");
        Edge.bookFault(3, "motto a when all;motto b when all;motto c when all;motto d when all;motto e when all;motto ^e x");
    }

    private static void faultFour() {
        Edge.says(Edge.TERMS, "4 the 7th ( [ not that is open at once (not until its FACT ends), at it;");
        Edge.goodBook(1, "bad when ((((((1)))))) = ((((((1))))));");
        Edge.goodBook(1, "bad when [[[[[[all]]]]]] or [[[[[[all]]]]]];");
        Edge.goodBook(1, "bad when not not not not not not all and not not not not not not all;");
        Edge.goodBook(1, "bad when [[[not not not all and not not not 1 = 1 or not not not all]]] and not all;");
        Edge.goodBook(1, "bad when min(min(min(min(min(min(1,1),1),1),1),1),min(1,1)) = 1;");
        Edge.goodBook(1, "bad when not [not (1) = (1) and [(1) = (max((1), 1))]];");
        Edge.bookFault(4, "bad when ((((((^(1))))))) = 1;");
        Edge.bookFault(4, "bad when [[[[[[^[all]]]]]]];");
        Edge.bookFault(4, "bad when not not not not not not ^not all;");
        Edge.bookFault(4, "bad when min(min(min(min(min(min(min^(1,1),1),1),1),1),1),1) = 1;");
        Edge.bookFault(4, "bad when not [not [not [^(1) = 1]]];");
        Edge.bookFault(4, "bad when not not not not not not 1 = ^(1);");
        Edge.bookFault(4, "bad when not not not not not not all and [not not not not not ^not all];");
        Edge.bookFault(4, "bad when [[[[[[1 = max ^(1, 2)");
        Edge.bookFault(4, "bad when (1) = 1 and ((((((^(1");
        Edge.bookFault(4, "bad when [[[[[[^[");
        Edge.bookFault(4, "bad when not not not not not not ^not");
        Edge.bookFault(1, "bad when not not not not not not ^nott all;");
        Edge.bookFault(1, "bad when [[[[[[max ^1");
        Edge.bookFault(1, "bad when ((((((^[all");
        Edge.bookFault(4, "motto a when all; motto b when ((((((^(1))))))) = 1;");
        Edge.goodBook(2, "bad when [[[[[[all]]]]]]; bad when [[[[[[all]]]]]];");
    }

    private static void faultFive() {
        Edge.says(Edge.TERMS, "5 one too many of a kind, one STATEMENT too many (whatever stands there), at its first byte.");
        String notes = Edge.times(24, "rest for 4;");
        String[] whatever = {"^?", "^;", "^step", "^7", "^12345", "^rest for 1;", " \n ^x", "^\t", "^" + (char) 0, "^" + (char) 255};
        for (String more : whatever) {
            Edge.lineFault(5, notes + more);
            Edge.bookFault(5, Edge.times(60, "measure 2;") + more);
        }
        String rules = Edge.times(12, "bad when all;");
        Edge.bookFault(5, rules + "^bad");
        Edge.bookFault(5, rules + "  ^bad x");
        Edge.bookFault(1, rules + "^ba");
        Edge.bookFault(1, rules + "^badd when all;");
        Edge.bookFault(1, rules + "^?");
        Edge.bookFault(5, SIX_MOTTOS + "^motto");
        Edge.bookFault(5, SIX_MOTTOS + "\n^motto a when all;");
        Edge.bookFault(5, SIX_MOTTOS + "^motto when");
        Edge.bookFault(1, SIX_MOTTOS + "^mottos");
        Edge.bookFault(5, rules + SIX_MOTTOS + Edge.times(42, "measure 2;") + "^bad when all;");
    }

    private static void firstAlong() {
        Edge.says(Edge.TERMS, "FAULTS of both, the first along the text:");
        Edge.lineFault(2, "step ^29 for 17; x");
        Edge.lineFault(1, "step 28 ^fo 17;");
        Edge.bookFault(3, "motto a when all; motto ^a when (((((((1;");
        Edge.bookFault(4, "bad when ((((((^(1 x;");
        Edge.bookFault(1, "bad when (((((1 ^x; measure 13;");
        Edge.bookFault(2, "measure ^99; bad");
    }

    private static void newObject() {
        Edge.says(1, "No notes, no RULES; a measure of 4.");
        OneLine x = new OneLine();
        int[] due = {0, 0, 0, 0, 0, 4, NONE, 8, 4, 0};
        for (int what = 0; what < due.length; what++) {
            Edge.due("has(" + what + ")", x.has(what), due[what]);
        }
        Edge.due("note(0, 1)", x.note(0, 1), NONE);
        Edge.due("letter(0, 0)", x.letter(0, 0), NONE);
        Edge.due("rule(0, false)", x.rule(0, false), NONE);
        Edge.due("an empty tape is an empty line", x.line(), 0);
        Edge.due("an empty tape is an empty book", x.book(), 0);
        Edge.due("an empty tape is no image", x.on(), false);
        x = new OneLine();
        Edge.due("a line without a book", Edge.line(x, "step 0 for 2; step 1 for 2;"), 2);
        Edge.due("breaks no rule", x.breach(84, 264, 0), NONE);
        Edge.due("nor in a round", x.round(264), NONE);
        Edge.due("all are ways", x.ways(2), 80);
        Edge.due("nothing is wrong", x.wrong(264, NONE), NONE);
        Edge.due("richest", x.richest(2, 1, 0), 80);
        Edge.due("make", x.make(264, 2, 1), 1);
        x = new OneLine();
        Edge.due("a book without a line", Edge.book(x, "bad when all; motto a when high = 0;"), 2);
        Edge.due("breaks nothing", x.breach(84, 264, 0), NONE);
        Edge.due("all are ways", x.ways(2), 80);
        Edge.due("some are meant", x.means(0, NONE), 8);
        Edge.says(Edge.TERMS, "(mirror 1, back 2, pace one half 4, double 8 may be; D 8, S 4, none at first)");
        x = new OneLine();
        Edge.due("D", x.has(7), 8);
        Edge.due("S", x.has(8), 4);
        Edge.due("kinds", x.has(9), 0);
        Edge.due("80 ways", x.ways(2), 80);
        Edge.due("the first", x.way(2, 0, 0), Edge.code(0, -4, 0, 0, 0));
        Edge.due("the last", x.way(2, 79, 0), Edge.code(8, 4, 0, 0, 0));
    }

    private static void feed() {
        Edge.says(2, "Twenty bytes come behind those on the tape, of each number the highest first: how many there are;");
        OneLine x = new OneLine();
        // an image of nine notes is twenty bytes long; a rest is a byte above 127
        int[] bytes = {9, 0, 1, 1, 2, 28, 16, 255, 4, 3, 5, 4, 6, 5, 7, 255, 8, 7, 8, 0};
        bytes[19] = checkOf(bytes, 19);
        Edge.due("feed", x.feed(number(bytes, 0), number(bytes, 4), number(bytes, 8), number(bytes, 12), number(bytes, 16)), 20);
        Edge.due("it is an image", x.on(), true);
        for (int n = 0; n < 9; n++) {
            Edge.due("step of " + n, x.note(n, 0), bytes[2 * n + 1] == 255 ? NONE : bytes[2 * n + 1]);
            Edge.due("ticks of " + n, x.note(n, 1), bytes[2 * n + 2]);
        }
        Edge.says(2, "NONE, doing nothing, if there would be more than 1600.");
        x = new OneLine();
        for (int n = 1; n <= 80; n++) {
            Edge.due("feed " + n, x.feed(0x20202020, 0x20202020, 0x20202020, 0x20202020, 0x20202020), 20 * n);
        }
        Edge.due("the 81st", x.feed(-1, -1, -1, -1, -1), NONE);
        Edge.due("there are 1600", x.end(1600), true);
        Edge.due("not 1601", x.end(1601), false);
        Edge.due("1581", x.end(1581), true);
        Edge.due("1601 are too many", x.feed(-1, -1, -1, -1, -1), NONE);
        Edge.due("1581 are left", x.end(1582), false);
        Edge.due("1580", x.end(1580), true);
        Edge.due("1600 are not", x.feed(0x20202020, 0x20202020, 0x20202020, 0x20202020, 0x20202020), 1600);
        Edge.due("all are blanks still", x.line(), 0);
        Edge.due("an empty tape again", x.feed(0, 0, 0, 0, 0), 20);
    }

    /** Four bytes, the highest first. */
    private static int number(int[] bytes, int from) {
        return bytes[from] << 24 | bytes[from + 1] << 16 | bytes[from + 2] << 8 | bytes[from + 3];
    }

    private static int checkOf(int[] bytes, int length) {
        int c = 23;
        for (int i = 0; i < length; i++) {
            c = (7 * c + bytes[i]) % 251;
        }
        return c;
    }

    private static void end() {
        Edge.says(3, "The tape has its first n bytes alone: true;");
        OneLine x = new OneLine();
        Edge.due("end(0) of none", x.end(0), true);
        Texts.feed(x, "rest for 2;rest for 2;");
        Edge.due("end(22)", x.end(22), true);
        Edge.due("end(11)", x.end(11), true);
        Edge.due("more comes behind them", x.feed(0x72657374, 0x20666f72, 0x20333b20, 0x20202020, 0x20202020), 31);
        Edge.due("two statements", x.line(), 2);
        Edge.due("the first", x.note(0, 1), 2);
        Edge.due("the second", x.note(1, 1), 3);
        Edge.says(3, "false, doing nothing, if it has not so many, or n is below 0.");
        x = new OneLine();
        Edge.due("end(1) of none", x.end(1), false);
        Edge.due("end(-1) of none", x.end(-1), false);
        Texts.feed(x, "rest for 2;         ");
        int[] none = {21, 1600, Edge.MOST, -1, -20, Edge.LEAST};
        for (int n : none) {
            Edge.due("end(" + n + ")", x.end(n), false);
        }
        Edge.due("twenty are there still", x.end(20), true);
        Edge.due("one statement", x.line(), 1);
    }

    private static void readLine() {
        Edge.says(4, "The tape (it goes) is THE LINE: how many STATEMENTS; NONE with a FAULT (all stays).");
        OneLine x = Edge.with("step 3 for 2; rest for 4;", "measure 5; bad when gap = 3; motto low when high < 0;");
        x.bounds(3, 2, 1);
        x.image();
        Edge.due("a fault at its end", Edge.line(x, "step 1 for 1; step 2 for 2; step 3 for 3"), NONE);
        Edge.due("the tape goes", x.end(1), false);
        Edge.due("notes stay", x.has(0) * 100 + x.has(1) * 10 + x.has(2), 216);
        Edge.due("first step stays", x.note(0, 0), 3);
        Edge.due("image stays", x.octet(0), 2);
        Edge.due("ways stay", x.ways(2), waysOf("step 3 for 2; rest for 4;"));
        Edge.due("a shorter line", Edge.line(x, "step 1 for 1;"), 1);
        Edge.due("the tape goes", x.end(1), false);
        Edge.due("the second note is gone", x.note(1, 1), NONE);
        Edge.due("an empty tape", x.line(), 0);
        Edge.due("no notes", x.has(0) + x.has(1) + x.has(2), 0);
        Edge.due("no first step", x.has(6), NONE);
        Edge.says(4, "THE BOOK and THE BOUNDS stay.");
        Edge.due("measure", x.has(5), 5);
        Edge.due("rules and mottos", x.has(3) * 10 + x.has(4), 11);
        Edge.due("its name", x.letter(0, 0), 12);
        Edge.due("bounds", x.has(7) * 100 + x.has(8) * 10 + x.has(9), 321);
    }

    private static int waysOf(String line) {
        OneLine x = Edge.with(line, "measure 5; bad when gap = 3; motto low when high < 0;");
        x.bounds(3, 2, 1);
        return x.ways(2);
    }

    private static void readBook() {
        Edge.says(5, "The tape (it goes) is THE BOOK: how many STATEMENTS; NONE with a FAULT (all stays).");
        OneLine x = Edge.with("step 3 for 2; rest for 4;", "measure 5; bad when gap = 3; motto low when high < 0;");
        x.bounds(3, 2, 1);
        int ways = x.ways(2);
        Edge.due("a fault at its end", Edge.book(x, "measure 7; bad when all; bad when all; motto x when all; motto y when all"), NONE);
        Edge.due("the tape goes", x.end(1), false);
        Edge.due("all of it stays", x.has(3) * 100 + x.has(4) * 10 + x.has(5), 115);
        Edge.due("its name", x.letter(0, 0) * 100 + x.letter(0, 2), 1223);
        Edge.due("its rule", x.breach(84, Edge.code(0, 3, 0, 0, 0), 0), 0);
        Edge.due("not another", x.breach(84, Edge.code(0, 2, 0, 0, 0), 0), NONE);
        Edge.due("ways", x.ways(2), ways);
        Edge.due("the motto means what it did", x.means(0, -1), meantLow(x, ways));
        Edge.due("another book", Edge.book(x, "bad when gap = 2;"), 1);
        Edge.due("the tape goes", x.end(1), false);
        Edge.due("no mottos", x.has(4), 0);
        Edge.due("another rule", x.breach(84, Edge.code(0, 2, 0, 0, 0), 0), 0);
        Edge.due("an empty tape", x.book(), 0);
        Edge.due("no rules, a measure of 4", x.has(3) * 10 + x.has(5), 4);
        earlierBooks();
        Edge.says(5, "THE LINE and THE BOUNDS stay.");
        Edge.due("notes", x.has(0) * 100 + x.has(1) * 10 + x.has(2), 216);
        Edge.due("bounds", x.has(7) * 100 + x.has(8) * 10 + x.has(9), 321);
    }

    /** Of a book nothing is left when another one comes, however many came ahead. */
    private static void earlierBooks() {
        OneLine x = Edge.with("step 0 for 2;", "");
        x.bounds(2, 1, 0);
        String many = "bad when not all; bad when all; motto a when not all; motto b when all; motto c when delay = 2 and high = 0;";
        String few = "bad when not not not all; motto a when not [delay = 1];";
        for (int n = 0; n < 3; n++) {
            Edge.due("many", Edge.book(x, many), 5);
            Edge.due("those that never meet", x.ways(2), 3);
            Edge.due("delay 2, high 0", x.mottos(1), 4);
            for (int i = 0; i <= n; i++) {
                Edge.due("few", Edge.book(x, few), 2);
                Edge.due("ways of it", x.ways(2), 8);
                Edge.due("no second rule", x.rule(1, false), NONE);
                Edge.due("no second motto", x.means(1, NONE), NONE);
                Edge.due("nothing leaves one", x.mottos(6), NONE);
                Edge.due("no letters of it", x.letter(1, 0), NONE);
            }
        }
        Edge.book(x, many);
        Edge.book(x, many);
        Edge.due("a faulty one", Edge.book(x, "bad when gap = 5; x"), NONE);
        Edge.due("and none", Edge.book(x, ""), 0);
        Edge.due("all are ways", x.ways(2), 8);
        Edge.due("without a motto", x.mottos(6), NONE);
        x.bounds(2, 0, 0);
        // held where the second rule and the second motto of the first book were, parts of the last book's tests would hold
        Edge.book(x, "bad when all; bad when all; motto a when all; motto b when delay = 2;");
        Edge.book(x, "");
        Edge.book(x, "bad when 0 = 1; motto a when not delay = 2;");
        Edge.due("both are ways", x.ways(2), 2);
        Edge.due("the first is meant", x.mottos(0), 1);
        Edge.due("the second is not", x.mottos(1), NONE);
        Edge.book(x, "bad when gap = 1; bad when gap = 1; motto xyzxyz when all;");
        Edge.book(x, "");
        Edge.book(x, "motto ab when all;");
        Edge.due("no letter of a longer name", x.letter(0, 2) + x.letter(0, 5), 0);
    }

    /** How many ways are lower than the leader. */
    private static int meantLow(OneLine x, int ways) {
        int found = 0;
        for (int k = 0; k < ways; k++) {
            found += x.follower(x.way(2, k, 0), 1) < 0 ? 1 : 0;
        }
        return found;
    }

    private static void fault() {
        Edge.says(6, "Of the latest line() or book(): its FAULT (what 0; 0 without, and ahead of any), its place (1; NONE without).");
        OneLine x = new OneLine();
        faultIs(x, 0, NONE);
        Edge.book(x, "measure 1;");
        faultIs(x, 2, 8);
        Edge.line(x, "x");
        faultIs(x, 1, 0);
        x.feed(0, 0, 0, 0, 0);
        x.on();
        x.draw(3, 3, 3);
        x.bounds(1, 1, 1);
        faultIs(x, 1, 0);
        Edge.book(x, "measure 2;");
        faultIs(x, 0, NONE);
        Edge.line(x, Edge.times(24, "rest for 1;") + "x");
        faultIs(x, 5, 264);
        Edge.line(x, "rest for 1;");
        faultIs(x, 0, NONE);
        Edge.book(x, "motto a when all;motto a");
        faultIs(x, 3, 23);
        Edge.book(x, "bad when [[[[[[[");
        faultIs(x, 4, 15);
        x.line();
        faultIs(x, 0, NONE);
        Edge.says(6, "NONE for another what.");
        Edge.line(x, "x");
        int[] others = {-1, 2, Edge.LEAST, Edge.MOST};
        for (int what : others) {
            Edge.due("fault(" + what + ")", x.fault(what), NONE);
        }
    }

    private static void faultIs(OneLine x, int kind, int place) {
        Edge.due("fault(0)", x.fault(0), kind);
        Edge.due("fault(1)", x.fault(1), place);
    }

    private static void has() {
        Edge.says(7, "0 notes (rests, too), 1 rests, 2 TICKS of all, 3 RULES, 4 MOTTOS, 5 the measure, 6 the first step (NONE without),");
        OneLine x = Edge.with("rest for 1; rest for 2; step 0 for 4; step 5 for 8;", "");
        Edge.due("notes", x.has(0), 4);
        Edge.due("rests", x.has(1), 2);
        Edge.due("ticks", x.has(2), 15);
        Edge.due("the first step may be 0", x.has(6), 0);
        x.change(1, 28);
        Edge.due("the first step is another", x.has(6), 28);
        Edge.due("a rest fewer", x.has(1), 1);
        Edge.line(x, "rest for 16;");
        Edge.due("rests alone", x.has(0) * 10 + x.has(1), 11);
        Edge.due("rests have no step", x.has(6), NONE);
        Edge.line(x, "");
        Edge.due("no notes", x.has(6), NONE);
        Edge.says(7, "7 D, 8 S, 9 kinds. NONE for others.");
        x.bounds(24, 7, 15);
        Edge.due("D, S, kinds", x.has(7) * 10000 + x.has(8) * 100 + x.has(9), 240715);
        int[] others = {-1, 10, Edge.LEAST, Edge.MOST};
        for (int what : others) {
            Edge.due("has(" + what + ")", x.has(what), NONE);
        }
    }

    private static void letter() {
        Edge.says(8, "Letter k (0 .. 5) of the NAME of a MOTTO: 1 .. 26; 0 behind it; NONE when there is none such.");
        OneLine x = Edge.with("", "motto a when all; motto zzzzzz when all; motto abz when all;");
        int[][] due = {{1, 0, 0, 0, 0, 0}, {26, 26, 26, 26, 26, 26}, {1, 2, 26, 0, 0, 0}};
        for (int motto = 0; motto < 3; motto++) {
            for (int k = 0; k < 6; k++) {
                Edge.due("letter(" + motto + ", " + k + ")", x.letter(motto, k), due[motto][k]);
            }
        }
        int[][] none = {{0, -1}, {0, 6}, {1, 6}, {3, 0}, {-1, 0}, {6, 0}, {Edge.MOST, 0}, {Edge.LEAST, 0}, {0, Edge.MOST}, {0, Edge.LEAST}};
        for (int[] row : none) {
            Edge.due("letter(" + row[0] + ", " + row[1] + ")", x.letter(row[0], row[1]), NONE);
        }
        Edge.book(x, SIX_MOTTOS);
        Edge.due("the sixth", x.letter(5, 0) * 10 + x.letter(5, 1), 60);
        Edge.due("no seventh", x.letter(6, 0), NONE);
        Edge.book(x, "");
        Edge.due("no first", x.letter(0, 0), NONE);
    }

    private static void note() {
        Edge.says(9, "Of a note (a rest): 0 its step (NONE of a rest), 1 its TICKS, 2 its first TICK.");
        OneLine x = Edge.with("rest for 16;step 0 for 16;step 28 for 16;rest for 16;step 1 for 16;step 2 for 15;step 3 for 1;", "");
        int[][] due = {{NONE, 16, 0}, {0, 16, 16}, {28, 16, 32}, {NONE, 16, 48}, {1, 16, 64}, {2, 15, 80}, {3, 1, 95}};
        for (int n = 0; n < due.length; n++) {
            for (int what = 0; what < 3; what++) {
                Edge.due("note(" + n + ", " + what + ")", x.note(n, what), due[n][what]);
            }
        }
        Edge.says(9, "NONE when there is none such, or for others.");
        int[][] none = {{7, 0}, {7, 1}, {7, 2}, {-1, 1}, {-1, 2}, {24, 1}, {Edge.MOST, 1}, {Edge.LEAST, 1}, {1, 3}, {1, -1}, {1, Edge.MOST}, {1, Edge.LEAST}};
        for (int[] row : none) {
            Edge.due("note(" + row[0] + ", " + row[1] + ")", x.note(row[0], row[1]), NONE);
        }
    }

    private static void bounds() {
        Edge.says(10, "THE BOUNDS are these (D 0 .. 24, S 0 .. 7, kinds 0 .. 15): how many FOLLOWERS are within them (THE LEADER not);");
        for (int delay = 0; delay <= 24; delay++) {
            OneLine x = new OneLine();
            for (int high = 0; high <= 7; high++) {
                for (int kinds = 0; kinds <= 15; kinds++) {
                    int shapes = (1 + (kinds & 1)) * (1 + (kinds >> 1 & 1)) * (1 + (kinds >> 2 & 1) + (kinds >> 3 & 1));
                    Edge.due("bounds(" + delay + ", " + high + ", " + kinds + ")", x.bounds(delay, high, kinds),
                        (delay + 1) * (2 * high + 1) * shapes - 1);
                }
            }
            Edge.due("they are these", x.has(7) * 10000 + x.has(8) * 100 + x.has(9), delay * 10000 + 715);
        }
        OneLine odd = Edge.with("step 0 for 1;", "");
        Edge.due("those that can't be count", odd.bounds(0, 0, 8), 1);
        Edge.due("though they are no ways", odd.ways(2), 0);
        Edge.says(10, "NONE, doing nothing, when they can't be.");
        OneLine x = Edge.with("step 0 for 2;", "bad when gap = 1;");
        x.bounds(2, 1, 3);
        int ways = x.ways(2);
        int[][] none = {{25, 0, 0}, {-1, 0, 0}, {0, 8, 0}, {0, -1, 0}, {0, 0, 16}, {0, 0, -1}, {Edge.MOST, 0, 0}, {Edge.LEAST, 0, 0},
            {0, Edge.MOST, 0}, {0, Edge.LEAST, 0}, {0, 0, Edge.MOST}, {0, 0, Edge.LEAST}};
        for (int[] row : none) {
            Edge.due("bounds(" + row[0] + ", " + row[1] + ", " + row[2] + ")", x.bounds(row[0], row[1], row[2]), NONE);
            Edge.due("they stay", x.has(7) * 10000 + x.has(8) * 100 + x.has(9), 20103);
        }
        Edge.due("and the ways", x.ways(2), ways);
    }
}
