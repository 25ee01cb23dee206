import java.util.Arrays;

/** The boundary cases of images, promises 38 to 40. */
public final class EdgesOfImagesTest {
    private static final int NONE = Edge.NONE;
    private static final int REST = 255;

    private EdgesOfImagesTest() {
    }

    public static void main(String[] args) {
        bytesOfAnImage();
        image();
        octet();
        suchALine();
        oneByteOther();
        on();
        allStays();
        Edge.finish(38, 40);
    }

    /** Bytes with the last one that is due behind them. */
    private static int[] sealed(int... bytes) {
        int[] all = Arrays.copyOf(bytes, bytes.length + 1);
        all[bytes.length] = checkOf(bytes, bytes.length);
        return all;
    }

    private static int checkOf(int[] bytes, int length) {
        int c = 23;
        for (int i = 0; i < length; i++) {
            c = (7 * c + bytes[i]) % 251;
        }
        return c;
    }

    /** The image of n notes of one step, all of so many ticks. */
    private static int[] notes(int n, int step, int ticks) {
        int[] bytes = new int[2 * n + 1];
        bytes[0] = n;
        for (int i = 0; i < n; i++) {
            bytes[2 * i + 1] = step;
            bytes[2 * i + 2] = ticks;
        }
        return sealed(bytes);
    }

    private static boolean taken(OneLine x, int... bytes) {
        StringBuilder text = new StringBuilder();
        for (int b : bytes) {
            text.append((char) b);
        }
        x.end(0);
        Texts.feed(x, text.toString());
        return x.on();
    }

    private static void imageIs(OneLine x, int... due) {
        Edge.due("image()", x.image(), due.length);
        for (int k = 0; k < due.length; k++) {
            Edge.due("octet(" + k + ")", x.octet(k), due[k]);
        }
        Edge.due("octet behind it", x.octet(due.length), NONE);
    }

    private static void bytesOfAnImage() {
        Edge.says(Edge.TERMS, "AN IMAGE: how many notes; of each its step (255 a rest), its TICKS; last a byte: all ahead from 23 on, c = (7 c + it) mod 251.");
        OneLine x = new OneLine();
        imageIs(x, 0, 161);
        Edge.line(x, "step 0 for 1;");
        imageIs(x, sealed(1, 0, 1));
        Edge.line(x, "rest for 16; step 28 for 16;");
        imageIs(x, sealed(2, 255, 16, 28, 16));
        Edge.line(x, Edge.times(24, "step 28 for 4;"));
        imageIs(x, notes(24, 28, 4));
        Edge.line(x, Edge.times(24, "rest for 1;"));
        imageIs(x, notes(24, REST, 1));
        x.change(23, 0);
        Edge.due("a changed note", x.image(), 50);
        Edge.due("its step", x.octet(47), 0);
    }

    private static void image() {
        Edge.says(38, "AN IMAGE is written: how many bytes.");
        OneLine x = new OneLine();
        Edge.due("no notes", x.image(), 2);
        for (int n = 1; n <= 24; n++) {
            Edge.line(x, Edge.times(n, "rest for 4;"));
            Edge.due("of " + n, x.image(), 2 * n + 2);
        }
        Edge.due("it changes nothing", x.has(0) * 100 + x.has(2), 2496);
        Edge.due("the tape neither", x.feed(0, 0, 0, 0, 0), 20);
        Edge.due("image()", x.image(), 50);
        Edge.due("it is there still", x.end(20), true);
    }

    private static void octet() {
        Edge.says(39, "Byte k of the latest image(); NONE when there is none such.");
        OneLine x = new OneLine();
        Edge.due("ahead of any", x.octet(0), NONE);
        Edge.line(x, "step 5 for 3;");
        Edge.due("ahead of any", x.octet(0), NONE);
        x.image();
        int[] due = sealed(1, 5, 3);
        Edge.line(x, "rest for 1; rest for 1; rest for 1;");
        for (int k = 0; k < 4; k++) {
            Edge.due("the latest stays: " + k, x.octet(k), due[k]);
        }
        int[] none = {-1, 4, 5, 49, 50, Edge.LEAST, Edge.MOST};
        for (int k : none) {
            Edge.due("octet(" + k + ")", x.octet(k), NONE);
        }
        x.image();
        Edge.due("a longer one", x.octet(7), checkOf(new int[] {3, 255, 1, 255, 1, 255, 1}, 7));
        Edge.line(x, "");
        x.image();
        Edge.due("a shorter one", x.octet(1), 161);
        Edge.due("has no more", x.octet(2), NONE);
    }

    private static void suchALine() {
        Edge.says(Edge.TERMS, "It is taken, if it is such a LINE.");
        OneLine x = new OneLine();
        Edge.due("no notes", taken(x, sealed(0)), true);
        Edge.due("step 0, a tick", taken(x, sealed(1, 0, 1)), true);
        Edge.due("step 28, 16 ticks", taken(x, sealed(1, 28, 16)), true);
        Edge.due("they are the line", x.note(0, 0) * 100 + x.note(0, 1), 2816);
        Edge.due("a rest", taken(x, sealed(1, 255, 16)), true);
        Edge.due("it is the line", x.has(1) * 100 + x.has(2), 116);
        Edge.due("24 notes of 96 ticks", taken(x, notes(24, 3, 4)), true);
        Edge.due("six of 96", taken(x, notes(6, REST, 16)), true);
        Edge.due("96 by a last tick", taken(x, sealed(7, 1, 16, 1, 16, 1, 16, 1, 16, 1, 16, 1, 15, 2, 1)), true);
        Edge.due("its last tick", x.note(6, 2), 95);
        Edge.due("97", taken(x, sealed(7, 1, 16, 1, 16, 1, 16, 1, 16, 1, 16, 1, 15, 2, 2)), false);
        Edge.due("97 by a rest", taken(x, sealed(7, 1, 16, 1, 16, 1, 16, 1, 16, 1, 16, 1, 16, 255, 1)), false);
        Edge.due("25 notes", taken(x, notes(25, 1, 1)), false);
        Edge.due("255 notes", taken(x, notes(255, 1, 1)), false);
        Edge.due("step 29", taken(x, sealed(1, 29, 2)), false);
        Edge.due("step 128", taken(x, sealed(1, 128, 2)), false);
        Edge.due("step 254", taken(x, sealed(1, 254, 2)), false);
        Edge.due("no ticks", taken(x, sealed(1, 3, 0)), false);
        Edge.due("no ticks of a rest", taken(x, sealed(1, 255, 0)), false);
        Edge.due("17 ticks", taken(x, sealed(1, 3, 17)), false);
        Edge.due("255 ticks", taken(x, sealed(1, 3, 255)), false);
        Edge.due("the last one can't be", taken(x, sealed(2, 3, 2, 3, 0)), false);
        Edge.due("the line stays", x.note(6, 2), 95);
        Edge.due("a line with odd ticks can be", taken(x, sealed(2, 3, 1, 4, 2)), true);
        Edge.due("no double pace then", x.follower(86, 5), 0);
        Edge.due("an even one", taken(x, sealed(2, 3, 2, 4, 2)), true);
        Edge.due("double pace then", x.follower(86, 5), 1);
    }

    private static boolean isImage(int[] bytes) {
        if (bytes.length < 2 || bytes[0] > 24 || bytes.length != 2 * bytes[0] + 2) {
            return false;
        }
        for (int i = 1; i < bytes.length - 1; i += 2) {
            if (bytes[i] > 28 && bytes[i] != REST || bytes[i + 1] < 1 || bytes[i + 1] > 16) {
                return false;
            }
        }
        return bytes[bytes.length - 1] == checkOf(bytes, bytes.length - 1);
    }

    private static void oneByteOther() {
        Edge.says(40, "false when it is none (all stays).");
        int[] right = sealed(2, 5, 3, 255, 1);
        int others = 0;
        for (int at = 0; at < right.length; at++) {
            OneLine x = null;
            for (int value = 0; value < 256; value++) {
                int[] bytes = right.clone();
                bytes[at] = value;
                x = value % 128 == 0 ? new OneLine() : x;
                boolean due = isImage(bytes);
                Edge.due("byte " + at + " being " + value, taken(x, bytes), due);
                others += due ? 1 : 0;
            }
        }
        Edge.due("each byte is right by one value, or two that are alike mod 251", others >= right.length, true);
    }

    private static void on() {
        Edge.says(40, "The tape (it goes) is AN IMAGE: true, THE LINE is as it tells;");
        OneLine x = Edge.with("step 9 for 3;", "measure 3; bad when gap = 1; motto a when all;");
        x.bounds(2, 1, 0);
        x.ways(3);
        Edge.due("two notes", taken(x, sealed(2, 0, 2, 255, 4)), true);
        Edge.due("the tape goes", x.end(1), false);
        Edge.due("its notes", x.has(0) * 100 + x.has(1) * 10 + x.has(2), 216);
        Edge.due("its first step", x.has(6), 0);
        Edge.due("its ways", x.ways(2), waysOf("step 0 for 2; rest for 4;"));
        Edge.due("the book stays", x.has(5) * 100 + x.has(3) * 10 + x.has(4), 311);
        Edge.due("the bounds stay", x.has(7) * 100 + x.has(8) * 10 + x.has(9), 210);
        Edge.due("as it was written", x.image(), 6);
        Edge.line(x, Edge.times(24, "step 28 for 4;"));
        x.image();
        StringBuilder bytes = new StringBuilder();
        for (int k = 0; k < 50; k++) {
            bytes.append((char) x.octet(k));
        }
        x.draw(3, 3, 3);
        Texts.feed(x, bytes.toString());
        Edge.due("the longest", x.on(), true);
        Edge.due("it is the line", x.has(0) * 100 + x.note(23, 0), 2428);
    }

    private static int waysOf(String line) {
        OneLine x = Edge.with(line, "measure 3; bad when gap = 1;");
        x.bounds(2, 1, 0);
        return x.ways(2);
    }

    private static void allStays() {
        Edge.says(40, "false when it is none (all stays).");
        OneLine x = Edge.with("step 9 for 3; rest for 1;", "measure 3; bad when gap = 1; motto a when all;");
        x.bounds(2, 1, 0);
        x.image();
        Edge.line(x, "x");
        Edge.due("no bytes", x.on(), false);
        int[][] none = {{0}, {161}, {0, 160}, {0, 161, 0}, {0, 162}, {1, 5}, {1, 5, 3}, {1, 5, 3, 196}, {1, 5, 3, 195, 32}, {32, 1, 5, 3, 195},
            {2, 5, 3, 195}, {0, 5, 3, 195}, {255, 255}};
        for (int[] bytes : none) {
            Edge.due(Arrays.toString(bytes), taken(x, bytes), false);
            Edge.due("the tape goes", x.end(1), false);
        }
        Edge.due("this one is", taken(new OneLine(), 1, 5, 3, 195), true);
        for (int n = 0; n < 80; n++) {
            x.feed(0x00a10000, 0, 0, 0, 0);
        }
        Edge.due("a full tape", x.on(), false);
        Edge.due("it goes", x.end(1), false);
        Edge.due("the line stays", x.has(0) * 100 + x.has(1) * 10 + x.has(2), 214);
        Edge.due("its step", x.note(0, 0), 9);
        Edge.due("the image stays", x.octet(1), 9);
        Edge.due("the fault stays", x.fault(0), 1);
        Edge.due("the book stays", x.has(5) * 100 + x.has(3) * 10 + x.has(4), 311);
        Edge.due("the bounds stay", x.has(7) * 100 + x.has(8) * 10 + x.has(9), 210);
    }
}
