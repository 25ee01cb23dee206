import java.util.Random;

/** Texts for tests: feeding them, and making them at random, right ones and spoilt ones. */
final class Texts {
    private static final String[] OF_RULE = {"gap", "sort", "under", "beat", "rise", "climb", "was", "last"};
    private static final String[] OF_MOTTO = {"delay", "high", "mirror", "back", "pace"};
    private static final String[] BITS = {
        "step", "for", "rest", "measure", "bad", "motto", "when", "or", "and", "not", "all", "gap", "delay", "min",
        "max", "pace", "low", "abcdefg", "(", ")", "[", "]", "+", "-", "*", "/", "<", ">", "=", ",", ";", " ", "\n",
        "0", "1", "17", "29", "13", "9999", "12345", "x", "A", "\t", "\0", "\u00ff", ".",
    };
    private final Random random;

    Texts(Random random) {
        this.random = random;
    }

    /** Puts a text on the tape (its characters are bytes); false if it is too long. */
    static boolean feed(OneLine x, String text) {
        int fed = 0;
        while (fed < text.length()) {
            if (x.feed(word(text, fed), word(text, fed + 4), word(text, fed + 8), word(text, fed + 12),
                       word(text, fed + 16)) == OneLine.NONE) {
                return false;
            }
            fed += 20;
        }
        return x.end(text.length());
    }

    /** Four bytes of a text as a number, blanks behind it. */
    static int word(String text, int from) {
        int number = 0;
        for (int i = from; i < from + 4; i++) {
            number = number << 8 | (i < text.length() ? text.charAt(i) & 255 : 32);
        }
        return number;
    }

    private int below(int n) {
        return random.nextInt(n);
    }

    private boolean oneIn(int n) {
        return below(n) == 0;
    }

    private String gap() {
        return oneIn(6) ? "\n" : oneIn(8) ? "  " : " ";
    }

    /** Where a blank may be but need not. */
    private String may() {
        return oneIn(3) ? gap() : "";
    }

    String line(int most, boolean even) {
        StringBuilder text = new StringBuilder();
        int left = 96;
        int notes = below(most + 1);
        int range = 1 + below(oneIn(4) ? 28 : 8);
        for (int n = 0; n < notes && left > 0; n++) {
            int ticks = oneIn(10) ? 1 + below(16) : 1 + below(4);
            ticks = Math.min(left, even ? 2 * ((ticks + 1) / 2) : ticks);
            left -= ticks;
            text.append(oneIn(6) ? "rest" : "step" + gap() + below(range + 1)).append(gap()).append("for")
                .append(gap()).append(ticks).append(may()).append(';').append(may());
        }
        return text.toString();
    }

    String book(int mostRules, int mostMottos) {
        StringBuilder text = new StringBuilder();
        int rules = below(mostRules + 1);
        int mottos = below(mostMottos + 1);
        int named = 0;
        while (rules + mottos > 0) {
            if (oneIn(6)) {
                text.append("measure").append(gap()).append(2 + below(11));
            } else if (mottos == 0 || rules > 0 && oneIn(2)) {
                text.append("bad").append(gap()).append("when").append(gap()).append(test(OF_RULE, 2));
                rules--;
            } else {
                text.append("motto").append(gap()).append((char) ('a' + named)).append("xyzuv", 0, below(6));
                text.append(gap()).append("when").append(gap()).append(test(OF_MOTTO, 2));
                named++;
                mottos--;
            }
            text.append(may()).append(';').append(may());
        }
        return text.toString();
    }

    private String test(String[] facts, int deep) {
        StringBuilder text = new StringBuilder(both(facts, deep));
        for (int n = below(4) / 2; n > 0; n--) {
            text.append(gap()).append("or").append(gap()).append(both(facts, deep));
        }
        return text.toString();
    }

    private String both(String[] facts, int deep) {
        StringBuilder text = new StringBuilder(fact(facts, deep));
        for (int n = below(4) / 2; n > 0; n--) {
            text.append(gap()).append("and").append(gap()).append(fact(facts, deep));
        }
        return text.toString();
    }

    private String fact(String[] facts, int deep) {
        int kind = below(12);
        if (kind == 0 && deep > 0) {
            return "not" + gap() + fact(facts, deep - 1);
        }
        if (kind == 1 && deep > 0) {
            return "[" + may() + test(facts, deep - 1) + may() + "]";
        }
        if (kind == 2 && oneIn(6)) {
            return "all";
        }
        if (kind < 9) {
            return facts[below(facts.length)] + may() + "<>==".charAt(below(4)) + may() + below(8);
        }
        return sum(facts, deep) + may() + "<>=".charAt(below(3)) + may() + sum(facts, deep);
    }

    private String sum(String[] facts, int deep) {
        StringBuilder text = new StringBuilder(part(facts, deep));
        for (int n = below(4); n > 0; n--) {
            text.append(may()).append("+-*/".charAt(below(4))).append(may()).append(part(facts, deep));
        }
        return text.toString();
    }

    private String part(String[] facts, int deep) {
        int kind = below(10);
        if (kind == 0 && deep > 0) {
            return "(" + may() + sum(facts, deep - 1) + may() + ")";
        }
        if (kind == 1 && deep > 0) {
            return (oneIn(2) ? "min" : "max") + may() + "(" + sum(facts, deep - 1) + may() + "," + may()
                + sum(facts, deep - 1) + ")";
        }
        return kind < 5 ? Integer.toString(oneIn(5) ? below(10000) : below(9)) : facts[below(facts.length)];
    }

    /** A text in which some bytes or words are others, more or fewer. */
    String spoilt(String text) {
        StringBuilder made = new StringBuilder(text);
        for (int n = 1 + below(2); n > 0; n--) {
            int at = below(made.length() + 1);
            int to = Math.min(made.length(), at + below(4));
            switch (below(4)) {
                case 0 -> made.insert(at, BITS[below(BITS.length)]);
                case 1 -> made.delete(at, to);
                case 2 -> made.replace(at, to, BITS[below(BITS.length)]);
                default -> made.setLength(at);
            }
        }
        return made.toString();
    }
}
