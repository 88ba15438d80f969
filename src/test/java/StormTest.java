import java.util.Random;

/**
 * LANGUAGE.md, rules 6 and 7: any call with any numbers in any state throws what the document names for it, by a throw
 * of its own, or answers within what the document tells; the machine itself throws nothing.
 */
public final class StormTest {
    private static final Trial T = new Trial();
    private static final int MOST_CALLS = 512;
    private static final int[] EDGES = {Integer.MIN_VALUE, Integer.MIN_VALUE + 1, -3001, -201, -2, -1, 0, 1, 2, 3, 4, 5, 6, 7, 8, 9, 11, 12, 13,
        40, 41, 199, 200, 201, 211, 212, 1499, 1500, 2980, 2999, 3000, 3001, 3002, 65536, Integer.MAX_VALUE - 1, Integer.MAX_VALUE};

    private final Random random;
    private final Texts texts;
    private final SpineTables x = new SpineTables();
    private int calls = 0;
    private static int threw = 0;

    private StormTest(long seed) {
        random = new Random(seed);
        texts = new Texts(seed);
    }

    private int any() {
        int pick = random.nextInt(8);
        return pick == 0 ? random.nextInt() : pick < 4 ? EDGES[random.nextInt(EDGES.length)] : random.nextInt(pick < 6 ? 3 : 14);
    }

    private int table() {
        return random.nextInt(12) == 0 ? any() : random.nextInt(8);
    }

    /** A text, twenty bytes a call; what is behind it is cut most of the time. */
    private int feedText() {
        String text = random.nextBoolean() ? texts.right() : random.nextBoolean() ? texts.spoiled() : Texts.KINDS[random.nextInt(4)];
        String padded = text + "\u0000".repeat(19 - (text.length() + 19) % 20);
        int size = 0;
        for (int at = 0; at < padded.length() && calls < MOST_CALLS - 1; at += 20) {
            calls++;
            int fed = x.feed(Trial.number(padded, at), Trial.number(padded, at + 4), Trial.number(padded, at + 8),
                    Trial.number(padded, at + 12), Trial.number(padded, at + 16));
            size = fed < 0 ? size : fed;
        }
        int more = padded.length() - text.length();
        return size >= more && random.nextInt(10) != 0 ? x.cut(size - more) : size;
    }

    private static long within(String what, long answer, long least, long most) {
        T.due(what + " answered " + answer + ", which is as told", answer >= least && answer <= most, true);
        return answer;
    }

    /** Of a call that may throw: the classes that it may, by their first letters. */
    private void mayThrow(String what, String letters, long least, long most, Trial.Call call) {
        try {
            within(what, call.answer(), least, most);
        } catch (RuntimeException e) {
            threw++;
            Class<?> thrown = e.getClass();
            boolean isTold = thrown == IndexOutOfBoundsException.class && letters.contains("I")
                    || thrown == IllegalArgumentException.class && letters.contains("A")
                    || thrown == IllegalStateException.class && letters.contains("S");
            T.due(what + " threw " + e, isTold, true);
        }
    }

    private void tapeCall() {
        switch (random.nextInt(5)) {
            case 0:
                within("feed", x.feed(any(), any(), any(), any(), any()), -1, 3000);
                break;
            case 1:
                within("cut", x.cut(any()), -1, 3000);
                break;
            case 2:
                within("fault", x.fault(), 0, 8);
                break;
            case 3:
                within("out", x.out(any()), -1, 126);
                break;
            default:
                within("the size of the tape", feedText(), 0, 3000);
        }
    }

    private void makingCall() {
        int t = table();
        int other = table();
        switch (random.nextInt(6)) {
            case 0:
            case 1:
                within("read", x.read(), -3010, 7);
                break;
            case 2:
                mayThrow("extract", "I", -4, 7, () -> x.extract(t));
                break;
            case 3:
                mayThrow("assemble", "I", -5, 7, () -> x.assemble(t, other));
                break;
            case 4:
                mayThrow("write", "I", 0, 3001, () -> x.write(t));
                break;
            default:
                mayThrow("drop", "I", 0, 200, () -> x.drop(t));
        }
    }

    private void tellingCall() {
        int t = table();
        int a = any();
        int b = any();
        int c = any();
        switch (random.nextInt(11)) {
            case 0:
                mayThrow("told", "IA", 0, 3001, () -> x.told(t, a));
                break;
            case 1:
                mayThrow("row", "IA", 0, 12, () -> x.row(t, a, b));
                break;
            case 2:
                mayThrow("strand", "IA", -1, 211, () -> x.strand(t, a, b, c));
                break;
            case 3:
                mayThrow("kind", "I", -1, 'z', () -> x.kind(t, a, b));
                break;
            case 4:
                mayThrow("token", "I", -1, 126, () -> x.token(t, a, b, c));
                break;
            case 5:
                mayThrow("walk", "I", -1, 199, () -> x.walk(t));
                break;
            case 6:
                mayThrow("misfit", "I", 0, 7, () -> x.misfit(t));
                break;
            case 7:
                mayThrow("time", "IAS", 0, 999999999, () -> x.time(t, a, b));
                break;
            case 8:
                mayThrow("length", "IAS", 1, 14985, () -> x.length(t, a, b, c));
                break;
            case 9:
                mayThrow("bars", "IS", -1, 199, () -> x.bars(t));
                break;
            default:
                mayThrow("same", "I", 0, 1, () -> x.same(t, table()) ? 1 : 0);
        }
    }

    private void run() {
        while (calls < MOST_CALLS) {
            calls++;
            switch (random.nextInt(4)) {
                case 0:
                    tapeCall();
                    break;
                case 1:
                    makingCall();
                    break;
                default:
                    tellingCall();
            }
        }
    }

    public static void main(String[] args) {
        int from = args.length > 0 ? Integer.parseInt(args[0]) : 0;
        int runs = args.length > 1 ? Integer.parseInt(args[1]) : 200;
        for (int seed = from; seed < from + runs; seed++) {
            new StormTest(seed).run();
        }
        T.due("some calls threw", threw > runs, true);
        T.end("StormTest");
    }
}
