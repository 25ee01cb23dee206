import java.util.Arrays;
import java.util.Random;

/** Random runs of calls on OneLine, each answer held against the model's. */
public final class ModelTest {
    private static final String[] CALLS = {
        "has", "letter", "note", "code", "follower", "sings", "breach", "together", "broken", "span", "ways", "way",
        "signs", "like", "means", "mean", "mottos", "common", "over", "alike", "unlike", "rule", "meant", "round",
        "make", "shortest", "richest", "wrong", "change", "draw", "image", "octet", "on", "bounds", "line", "book",
        "fault", "end", "feed", "image on",
    };
    private static final int MANY = 1000000;

    private final Random random;
    private final Texts texts;
    private final OneLine x = new OneLine();
    private final Model model = new Model();
    private final boolean small;
    /** The bounds are often the widest, the followers of all heights. */
    private final boolean wide;
    private final StringBuilder told = new StringBuilder();
    private int wrong;

    private ModelTest(long seed, boolean small, boolean wide) {
        random = new Random(seed);
        texts = new Texts(random);
        this.small = small;
        this.wide = wide;
    }

    public static void main(String[] args) {
        int wrong = 0;
        int runs = args.length > 0 ? Integer.parseInt(args[0]) : 250;
        int from = args.length > 1 ? Integer.parseInt(args[1]) : 0;
        for (int seed = from; seed < from + runs && wrong == 0; seed++) {
            boolean wide = seed % 8 == 4;
            ModelTest run = new ModelTest(seed, seed % 8 != 0 && !wide, wide);
            run.play(wide ? 40 : 100);
            if (run.wrong > 0) {
                System.out.println("seed " + seed + ":\n" + run.told);
            }
            wrong += run.wrong;
        }
        for (int seed = from; seed < from + 40 * runs && wrong == 0; seed++) {
            ModelTest run = new ModelTest(seed, true, false);
            run.readTexts(6);
            if (run.wrong > 0) {
                System.out.println("texts, seed " + seed + ":\n" + run.told);
            }
            wrong += run.wrong;
        }
        System.out.println(wrong == 0 ? "all answers are the model's" : wrong + " answers are not the model's");
        System.exit(wrong == 0 ? 0 : 1);
    }

    private void play(int calls) {
        setBounds();
        readLine();
        readBook();
        for (int n = 0; n < calls && wrong == 0; n++) {
            one(CALLS[random.nextInt(CALLS.length)]);
        }
    }

    private void readTexts(int count) {
        for (int n = 0; n < count && wrong == 0; n++) {
            String text = random.nextBoolean() ? texts.line(26, false) : texts.book(6, 4);
            put(random.nextInt(4) == 0 ? text : texts.spoilt(text));
            boolean line = text.isEmpty() || text.startsWith("step") || text.startsWith("rest");
            if (line) {
                due("line()", x.line(), model.line());
            } else {
                due("book()", x.book(), model.book());
            }
            due("fault(0)", x.fault(0), model.fault(0));
            due("fault(1)", x.fault(1), model.fault(1));
            for (int what = 0; what < 7; what++) {
                due("has", x.has(what), model.has(what));
            }
            for (int i = 0; i < 36; i++) {
                due("letter", x.letter(i / 6, i % 6), model.letter(i / 6, i % 6));
            }
        }
    }

    private void due(String call, long got, long want) {
        told.append(call).append(" answered ").append(got).append('\n');
        if (got != want) {
            wrong++;
            told.append("  but the model ").append(want).append('\n');
        }
    }

    private void due(String call, boolean got, boolean want) {
        due(call, got ? 1 : 0, want ? 1 : 0);
    }

    private void put(String text) {
        told.append("text ").append(text.replace("\n", "\\n")).append('\n');
        String cut = text.length() > 1600 ? text.substring(0, 1600) : text;
        x.end(0);
        model.end(0);
        Texts.feed(x, cut);
        for (int i = 0; i < cut.length(); i += 20) {
            model.feed(Texts.word(cut, i), Texts.word(cut, i + 4), Texts.word(cut, i + 8), Texts.word(cut, i + 12),
                       Texts.word(cut, i + 16));
        }
        model.end(cut.length());
    }

    private void readLine() {
        String text = texts.line(small ? 8 : 24, random.nextBoolean());
        put(random.nextInt(8) == 0 ? texts.spoilt(text) : text);
        due("line()", x.line(), model.line());
    }

    private void readBook() {
        String text = texts.book(small ? 3 : 12, 6);
        put(random.nextInt(8) == 0 ? texts.spoilt(text) : text);
        due("book()", x.book(), model.book());
    }

    private void setBounds() {
        int delay = wide ? Math.min(24, random.nextInt(40)) : small ? random.nextInt(5) : random.nextInt(12);
        int high = wide ? Math.min(7, random.nextInt(14)) : random.nextInt(small ? 3 : 5);
        int kinds = wide ? Math.min(15, random.nextInt(30)) : random.nextInt(16);
        due("bounds(" + delay + ", " + high + ", " + kinds + ")", x.bounds(delay, high, kinds),
            model.bounds(delay, high, kinds));
    }

    /** A number from least to most, now and then one beside them or far off. */
    private int pick(int least, int most) {
        switch (random.nextInt(24)) {
            case 0: return least - 1;
            case 1: return most + 1;
            case 2: return random.nextInt();
            case 3: return new int[] {Integer.MIN_VALUE, Integer.MAX_VALUE, MANY, -2}[random.nextInt(4)];
            default: return least + random.nextInt(Math.max(1, most - least + 1));
        }
    }

    private int pickCode() {
        if (random.nextInt(6) == 0) {
            return pick(0, 4499);
        }
        int delay = random.nextInt(random.nextInt(5) == 0 ? 25 : 6);
        int kind = random.nextInt(3) == 0 ? 0 : random.nextInt(12);
        int high = wide ? random.nextInt(15) : 5 + random.nextInt(5);
        return random.nextInt(12) == 0 ? 84 : (delay * 15 + high) * 12 + kind;
    }

    private int pickWay(int voices) {
        int count = model.ways(voices);
        return count > 0 ? pick(0, count - 1) : pick(0, 2);
    }

    private void one(String call) {
        int code = pickCode();
        int other = pickCode();
        int voices = random.nextInt(10) == 0 ? pick(2, 4) : 2 + random.nextInt(3);
        int motto = pick(0, Math.max(0, model.has(4) - 1));
        boolean flag = random.nextBoolean();
        int[] a;
        switch (call) {
            case "has": a = args(call, pick(0, 9)); due("", x.has(a[0]), model.has(a[0])); break;
            case "letter": a = args(call, motto, pick(0, 5)); due("", x.letter(a[0], a[1]), model.letter(a[0], a[1])); break;
            case "note":
                a = args(call, pick(0, Math.max(0, model.has(0) - 1)), pick(0, 2));
                due("", x.note(a[0], a[1]), model.note(a[0], a[1]));
                break;
            case "code":
                a = args(call, pick(0, 24), pick(-7, 7), pick(0, 1), pick(0, 1), pick(0, 2));
                due("", x.code(a[0], a[1], a[2], a[3], a[4]), model.code(a[0], a[1], a[2], a[3], a[4]));
                break;
            case "follower": a = args(call, code, pick(0, 6)); due("", x.follower(a[0], a[1]), model.follower(a[0], a[1])); break;
            case "sings":
                a = args(call, code, flag ? pick(0, 40) : pick(0, 999));
                due("", x.sings(a[0], a[1]), model.sings(a[0], a[1]));
                break;
            case "breach":
                a = args(call, flag ? 84 : other, code, pick(0, 1));
                due("", x.breach(a[0], a[1], a[2]), model.breach(a[0], a[1], a[2]));
                break;
            case "together":
                a = args(call, flag ? 84 : other, code, pick(0, 2));
                due("", x.together(a[0], a[1], a[2]), model.together(a[0], a[1], a[2]));
                break;
            case "broken":
                a = args(call, other, code, pick(0, 4));
                due("", x.broken(a[0], a[1], a[2]), model.broken(a[0], a[1], a[2]));
                break;
            case "span": args(call, code, flag ? 1 : 0); due("", x.span(code, flag), model.span(code, flag)); break;
            default: second(call, code, voices, motto, flag);
        }
    }

    private void second(String call, int code, int voices, int motto, boolean flag) {
        int[] a;
        switch (call) {
            case "ways": args(call, voices); due("", x.ways(voices), model.ways(voices)); break;
            case "way":
                a = args(call, voices, pickWay(voices), pick(0, 2));
                due("", x.way(a[0], a[1], a[2]), model.way(a[0], a[1], a[2]));
                break;
            case "signs": a = args(call, pickWay(2)); due("", x.signs(a[0]), model.signs(a[0])); break;
            case "like": a = args(call, pickWay(2), pick(0, 31)); due("", x.like(a[0], a[1]), model.like(a[0], a[1])); break;
            case "means":
                a = args(call, motto, flag ? -1 : pickWay(2));
                due("", x.means(a[0], a[1]), model.means(a[0], a[1]));
                break;
            case "mean": a = args(call, pick(0, (1 << model.has(4)) - 1)); due("", x.mean(a[0]), model.mean(a[0])); break;
            case "mottos": a = args(call, pickWay(2)); due("", x.mottos(a[0]), model.mottos(a[0])); break;
            case "common": a = args(call, pick(0, 3)); due("", x.common(a[0]), model.common(a[0])); break;
            case "over": a = args(call, voices, pickWay(voices)); due("", x.over(a[0], a[1]), model.over(a[0], a[1])); break;
            case "alike": a = args(call, pickWay(2)); due("", x.alike(a[0]), model.alike(a[0])); break;
            case "unlike": args(call); due("", x.unlike(), model.unlike()); break;
            case "rule":
                a = args(call, pick(0, Math.max(0, model.has(3) - 1)), flag ? 1 : 0);
                due("", x.rule(a[0], flag), model.rule(a[0], flag));
                break;
            case "meant": args(call, voices, motto); due("", x.meant(voices, motto), model.meant(voices, motto)); break;
            case "round":
                a = args(call, flag ? code : code - Math.floorMod(code, 3));
                due("", x.round(a[0]), model.round(a[0]));
                break;
            default: third(call, code, flag);
        }
    }

    private void third(String call, int code, boolean flag) {
        int[] a;
        switch (call) {
            case "make":
                a = args(call, code, pick(1, small ? 4 : 6), pick(0, small ? 3 : 4));
                due("", x.make(a[0], a[1], a[2]), model.make(a[0], a[1], a[2]));
                break;
            case "shortest":
                a = args(call, code, pick(0, small ? 2 : 4));
                due("", x.shortest(a[0], a[1]), model.shortest(a[0], a[1]));
                break;
            case "richest":
                a = args(call, pick(1, 4), small ? pick(0, 1) : pick(0, 2), pick(0, 1));
                due("", x.richest(a[0], a[1], a[2]), model.richest(a[0], a[1], a[2]));
                break;
            case "wrong":
                a = args(call, code, flag ? -1 : pick(0, 40));
                due("", x.wrong(a[0], a[1]), model.wrong(a[0], a[1]));
                break;
            case "change":
                a = args(call, pick(0, Math.max(0, model.has(0) - 1)), pick(0, flag ? 28 : 6));
                due("", x.change(a[0], a[1]), model.change(a[0], a[1]));
                break;
            case "draw":
                a = args(call, pick(1, small ? 8 : 24), pick(0, flag ? 28 : 6), random.nextInt());
                due("", x.draw(a[0], a[1], a[2]), model.draw(a[0], a[1], a[2]));
                break;
            case "image": args(call); due("", x.image(), model.image()); break;
            case "octet": a = args(call, pick(0, 17)); due("", x.octet(a[0]), model.octet(a[0])); break;
            case "on": args(call); due("", x.on(), model.on()); break;
            case "image on": imageOn(); break;
            case "bounds": setBounds(); break;
            case "line": readLine(); break;
            case "book": readBook(); break;
            case "fault": a = args(call, pick(0, 1)); due("", x.fault(a[0]), model.fault(a[0])); break;
            case "end": a = args(call, pick(0, 40)); due("", x.end(a[0]), model.end(a[0])); break;
            case "feed":
                a = args(call, random.nextInt(), random.nextInt(), random.nextInt(), random.nextInt(), random.nextInt());
                due("", x.feed(a[0], a[1], a[2], a[3], a[4]), model.feed(a[0], a[1], a[2], a[3], a[4]));
                break;
            default: due("unknown call " + call, 1, 0);
        }
    }

    /** An image goes back on the tape, as it is or spoilt in one byte. */
    private void imageOn() {
        due("image()", x.image(), model.image());
        StringBuilder bytes = new StringBuilder();
        for (int k = 0; x.octet(k) != -1; k++) {
            bytes.append((char) x.octet(k));
        }
        if (random.nextInt(3) == 0) {
            bytes.setCharAt(random.nextInt(bytes.length()), (char) random.nextInt(256));
        }
        if (random.nextInt(6) == 0) {
            bytes.append((char) random.nextInt(256));
        }
        model.draw(3, 4, 5);
        x.draw(3, 4, 5);
        put(bytes.toString());
        due("on()", x.on(), model.on());
    }

    private int[] args(String call, int... values) {
        told.append(call).append(Arrays.toString(values));
        return values;
    }
}
