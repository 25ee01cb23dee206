import java.io.IOException;
import java.nio.file.Files;
import java.nio.file.Path;
import java.util.Set;
import java.util.TreeSet;

/** What the tests of the boundary cases share: each case stands under the sentence of the document that names it. */
final class Edge {
    static final int NONE = OneLine.NONE;
    static final int NOTHING = OneLine.NOTHING;
    static final int LEAST = Integer.MIN_VALUE;
    static final int MOST = Integer.MAX_VALUE;
    static final int LEADER = 84;
    /** In place of a promise's number: the sentence stands under 'Terms'. */
    static final int TERMS = 0;

    private static final String DOCUMENT = document();
    private static final Set<Integer> seen = new TreeSet<>();
    private static int wrong;
    private static int sentences;
    private static int calls;
    private static String said = "";

    private Edge() {
    }

    private static String document() {
        Path root = Path.of(System.getProperty("root", "."));
        try {
            return plain(Files.readString(root.resolve("../shared/DOC.md")));
        } catch (IOException e) {
            System.out.println("the document can't be read: " + e);
            return "";
        }
    }

    /** Without the marks of a block, each run of blanks and line ends being one blank. */
    private static String plain(String text) {
        return text.replace("```text", " ").replace("```", " ").replaceAll("\\s+", " ");
    }

    /** The part of the document that tells a promise, or the terms. */
    private static String part(int promise) {
        String head = promise == TERMS ? "## Terms" : "## Promise " + promise + ":";
        int from = DOCUMENT.indexOf(head);
        int to = from < 0 ? -1 : DOCUMENT.indexOf("## ", from + head.length());
        return from < 0 || to < 0 ? "" : DOCUMENT.substring(from, to);
    }

    /** The calls that follow hold to this sentence of a promise, or of the terms. */
    static void says(int promise, String sentence) {
        said = (promise == TERMS ? "terms" : "promise " + promise) + ", \"" + sentence + "\"";
        if (!part(promise).contains(plain(sentence))) {
            fail("the document does not say so");
        }
        seen.add(promise);
        sentences++;
    }

    private static void fail(String what) {
        wrong++;
        System.out.println(said + ": " + what);
    }

    static void due(String call, long got, long want) {
        calls++;
        if (got != want) {
            fail(call + " answered " + got + ", due is " + want);
        }
    }

    static void due(String call, boolean got, boolean want) {
        due(call, got ? 1 : 0, want ? 1 : 0);
    }

    /** Ends the test: none of the promises from one to another may be without a sentence. */
    static void finish(int from, int to) {
        for (int promise = from; promise <= to; promise++) {
            if (!seen.contains(promise)) {
                said = "promise " + promise;
                fail("no case of it is tested");
            }
        }
        System.out.println(sentences + " sentences, " + calls + " answers, " + wrong + " not as due");
        System.exit(wrong == 0 ? 0 : 1);
    }

    static int line(OneLine x, String text) {
        x.end(0);
        due("feeding", Texts.feed(x, text), true);
        return x.line();
    }

    static int book(OneLine x, String text) {
        x.end(0);
        due("feeding", Texts.feed(x, text), true);
        return x.book();
    }

    static OneLine with(String line, String book) {
        OneLine x = new OneLine();
        due("line " + line, line(x, line) >= 0, true);
        due("book " + book, book(x, book) >= 0, true);
        return x;
    }

    static String times(int n, String text) {
        return text.repeat(n);
    }

    /** Reads a line whose fault is of a kind; its place is marked by a ^ in the text, which is no byte of it. */
    static void lineFault(int kind, String marked) {
        OneLine x = new OneLine();
        String text = marked.replace("^", "");
        checkFault(x, line(x, text), kind, marked);
    }

    static void bookFault(int kind, String marked) {
        OneLine x = new OneLine();
        String text = marked.replace("^", "");
        checkFault(x, book(x, text), kind, marked);
    }

    private static void checkFault(OneLine x, int got, int kind, String marked) {
        due("reading " + marked, got, NONE);
        due("fault(0) of " + marked, x.fault(0), kind);
        due("fault(1) of " + marked, x.fault(1), marked.indexOf('^'));
    }

    /** Reads a line without a fault. */
    static void goodLine(int statements, String text) {
        OneLine x = new OneLine();
        due("line " + text, line(x, text), statements);
        due("fault(0) of " + text, x.fault(0), 0);
        due("fault(1) of " + text, x.fault(1), NONE);
    }

    static void goodBook(int statements, String text) {
        OneLine x = new OneLine();
        due("book " + text, book(x, text), statements);
        due("fault(0) of " + text, x.fault(0), 0);
        due("fault(1) of " + text, x.fault(1), NONE);
    }

    /** The CODE as the document reckons it. */
    static int code(int delay, int high, int mirror, int back, int pace) {
        return (((delay * 15 + (high + 7)) * 2 + mirror) * 2 + back) * 3 + pace;
    }

    /** The steps that a follower sings from a tick on, one behind the other. */
    static void song(OneLine x, int code, int from, int... steps) {
        for (int i = 0; i < steps.length; i++) {
            due("sings(" + code + ", " + (from + i) + ")", x.sings(code, from + i), steps[i]);
        }
    }
}
