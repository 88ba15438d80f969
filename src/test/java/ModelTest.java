import java.util.Random;

/** Random calls on random texts: the class answers as a second program does that was written from the document. */
public final class ModelTest {
    private static final Trial T = new Trial();
    private static final int NO_INDEX = 100001, NO_ARGUMENT = 100002, NO_STATE = 100003, ANY_OTHER = 100004;
    private static final int MOST_CALLS = 500;

    interface Call {
        int answer();
    }

    private final Random random;
    private final Texts texts;
    private final Trial trial = new Trial();
    private final Plain[] tables = new Plain[8];
    private final StringBuilder story = new StringBuilder();
    private String tape = "";
    private String out = "";
    private int fault = 0;
    private int calls = 0;
    private static int assembled = 0;
    private static int extracted = 0;
    private static int fitting = 0;
    private static int faulty = 0;

    private ModelTest(long seed) {
        random = new Random(seed);
        texts = new Texts(seed);
    }

    private static int thrown(Call call) {
        try {
            return call.answer();
        } catch (IndexOutOfBoundsException e) {
            return e.getClass() == IndexOutOfBoundsException.class ? NO_INDEX : ANY_OTHER;
        } catch (IllegalArgumentException e) {
            return e.getClass() == IllegalArgumentException.class ? NO_ARGUMENT : ANY_OTHER;
        } catch (IllegalStateException e) {
            return e.getClass() == IllegalStateException.class ? NO_STATE : ANY_OTHER;
        } catch (RuntimeException e) {
            return ANY_OTHER;
        }
    }

    private void due(String what, int want, Call call) {
        calls++;
        story.append(what).append('\n');
        int got = thrown(call);
        if (got != want) {
            System.out.println(story);
        }
        T.due(what, got, want);
    }

    private void run() {
        while (calls < MOST_CALLS - 160) {
            step();
        }
    }

    private void step() {
        switch (random.nextInt(12)) {
            case 0:
            case 1:
            case 2:
                read(texts.right());
                break;
            case 3:
                read(texts.spoiled());
                break;
            case 4:
            case 5:
                extract(number(8));
                break;
            case 6:
            case 7:
                assemble(number(8), number(8));
                break;
            case 8:
                drop(random.nextInt(10) - 1);
                break;
            case 9:
                write(number(9));
                break;
            default:
                for (int n = 0; n < 12; n++) {
                    ask(number(8));
                }
        }
    }

    /** Mostly one that is there. */
    private int number(int of) {
        int t = random.nextInt(of);
        for (int n = 0; n < 8 && random.nextInt(10) != 0 && (t >= 8 || tables[t] == null); n++) {
            t = random.nextInt(8);
        }
        return t;
    }

    private Plain at(int t) {
        return t < 0 || t > 7 ? null : tables[t];
    }

    private int free() {
        for (int t = 0; t < 8; t++) {
            if (tables[t] == null) {
                return t;
            }
        }
        return SpineTables.FULL;
    }

    private void tape(String text) {
        if (random.nextInt(20) == 0) {
            trial.x.cut(0);
            tape = "";
        }
        int before = tape.length();
        String padded = text + "*".repeat(19 - (text.length() + 19) % 20);
        for (int at = 0; at < padded.length(); at += 20) {
            int from = at;
            boolean goes = tape.length() + 20 <= 3000;
            tape += goes ? padded.substring(at, at + 20) : "";
            due("feed", goes ? tape.length() : SpineTables.NONE, () -> trial.x.feed(Trial.number(padded, from), Trial.number(padded, from + 4),
                    Trial.number(padded, from + 8), Trial.number(padded, from + 12), Trial.number(padded, from + 16)));
        }
        int keep = before + text.length();
        due("cut " + keep, tape.length() - keep, () -> trial.x.cut(keep));
        tape = tape.substring(0, keep);
        story.append('[').append(tape).append("]\n");
    }

    private void read(String text) {
        tape(text);
        int place = free();
        Plain fresh = new Plain(tape);
        tape = "";
        int want = place < 0 ? place : fresh.code != 0 ? -10 - fresh.place : place;
        due("read", want, () -> trial.x.read());
        if (place >= 0) {
            fault = fresh.code;
            faulty += fresh.code == 0 ? 0 : 1;
        }
        if (want >= 0) {
            tables[want] = fresh;
            fitting += fresh.misfit == 0 ? 1 : 0;
            tellMost(want);
        }
        due("fault", fault, () -> trial.x.fault());
    }

    private void extract(int t) {
        String kind = random.nextInt(15) == 0 ? "ker" : Texts.KINDS[random.nextInt(4)];
        tape(kind);
        String name = tape;
        int answer = NO_INDEX;
        if (at(t) != null) {
            tape = "";
            answer = at(t).extractAnswer(name);
            answer = answer < 0 ? answer : free();
        }
        due("extract " + t, answer, () -> trial.x.extract(t));
        if (answer >= 0 && answer < 8) {
            extracted++;
            tables[answer] = new Plain(at(t).extract(name));
            tellMost(answer);
        }
    }

    private void assemble(int a, int b) {
        Plain made = null;
        int answer = at(a) == null || at(b) == null ? NO_INDEX : at(a).misfit + at(b).misfit > 0 ? Plain.OTHER : 0;
        if (answer == 0) {
            String text = Plain.assemble(at(a), at(b));
            made = text == null ? null : new Plain(text);
            boolean isTooMuch = text != null && (text.length() > 3000 || made.code == 7);
            answer = text == null ? Plain.OTHER : free() < 0 ? free() : isTooMuch ? Plain.ROOM : free();
        }
        due("assemble " + a + " " + b, answer, () -> trial.x.assemble(a, b));
        if (answer >= 0 && answer < 8) {
            assembled++;
            tables[answer] = made;
            tellMost(answer);
        }
    }

    private void drop(int t) {
        due("drop " + t, at(t) == null ? NO_INDEX : at(t).rows.size(), () -> trial.x.drop(t));
        if (at(t) != null) {
            tables[t] = null;
        }
    }

    private void write(int t) {
        out = at(t) == null ? out : at(t).written();
        due("write " + t, at(t) == null ? NO_INDEX : out.length(), () -> trial.x.write(t));
        for (int n = 0; n < 12; n++) {
            int i = random.nextInt(out.length() + 4) - 2;
            due("out " + i, i < 0 || i >= out.length() ? -1 : out.charAt(i), () -> trial.x.out(i));
        }
    }

    private void tellMost(int t) {
        for (int what = 0; what < 7; what++) {
            told(t, what);
        }
        due("walk " + t, at(t).misfitRow, () -> trial.x.walk(t));
        due("misfit " + t, at(t).misfit, () -> trial.x.misfit(t));
        bars(t);
        for (int n = 0; n < 25; n++) {
            ask(t);
        }
    }

    private void told(int t, int what) {
        Plain table = at(t);
        int[] answers = new int[7];
        if (table != null) {
            answers[0] = table.rows.size();
            for (Plain.Row row : table.rows) {
                answers[1] += row.sort == 0 ? 0 : 1;
                answers[2] += row.sort == 4 ? 1 : 0;
                answers[3] += row.sort == 3 ? 1 : 0;
                answers[5] = Math.max(answers[5], row.tokens.size());
            }
            answers[4] = table.kinds.size();
            answers[6] = table.written().length();
        }
        int want = table == null ? NO_INDEX : what < 0 || what > 6 ? NO_ARGUMENT : answers[what];
        due("told " + t + " " + what, want, () -> trial.x.told(t, what));
    }

    private void bars(int t) {
        int want = at(t) == null ? NO_INDEX : at(t).misfit != 0 ? NO_STATE : at(t).bars();
        due("bars " + t, want, () -> trial.x.bars(t));
    }

    private void ask(int t) {
        Plain table = at(t);
        int count = table == null ? 3 : table.rows.size();
        int r = random.nextInt(20) == 0 ? random.nextInt(count + 4) - 2 : random.nextInt(count + 1);
        Plain.Row row = table == null || r < 0 || r >= count ? null : table.rows.get(r);
        int tokens = row == null ? 1 : row.tokens.size();
        int i = random.nextInt(15) == 0 || tokens == 0 ? random.nextInt(tokens + 3) - 1 : random.nextInt(tokens);
        int what = random.nextInt(30) == 0 ? random.nextInt(9) - 1 : random.nextInt(4);
        String token = row == null ? null : row.sort == 0 ? i == 0 ? row.line : null : i < 0 || i >= tokens ? null : row.tokens.get(i);
        switch (random.nextInt(9)) {
            case 0:
                told(t, what + random.nextInt(4));
                break;
            case 1:
                int sort = row == null ? NO_INDEX : what == 0 ? row.sort : what == 1 ? tokens : NO_ARGUMENT;
                due("row " + t + " " + r + " " + what, sort, () -> trial.x.row(t, r, what));
                break;
            case 2:
            case 3:
                strand(t, r, i, what, row == null || token == null || row.sort == 0 ? null : row);
                break;
            case 4:
                kind(t, random.nextInt(5) - 1);
                break;
            case 5:
                int k = random.nextInt(token == null ? 3 : token.length() + 3) - 1;
                int due = token == null ? NO_INDEX : k < 0 || k >= token.length() ? -1 : token.charAt(k);
                due("token " + t + " " + r + " " + i + " " + k, due, () -> trial.x.token(t, r, i, k));
                break;
            case 6:
                time(t, r, what - random.nextInt(3));
                break;
            case 7:
                length(t, r, i, what - random.nextInt(3), row == null || token == null || row.sort == 0 ? null : row);
                break;
            default:
                int other = number(8);
                int same = table == null || at(other) == null ? NO_INDEX : table.written().equals(at(other).written()) ? 1 : 0;
                due("same " + t + " " + other, same, () -> trial.x.same(t, other) ? 1 : 0);
        }
    }

    private void strand(int t, int r, int i, int what, Plain.Row row) {
        int want = NO_INDEX;
        if (row != null) {
            Plain.Strand strand = row.strands.get(i);
            String token = row.tokens.get(i);
            int act = Plain.isKind(token) ? 6 : java.util.List.of("*^", "*v", "*x", "*-", "*+").indexOf(token) + 1;
            want = what == 0 ? at(t).kinds.indexOf(strand.kind) : what == 1 ? strand.number : what == 2 ? strand.held : what == 3 ? act : NO_ARGUMENT;
        }
        due("strand " + t + " " + r + " " + i + " " + what, want, () -> trial.x.strand(t, r, i, what));
    }

    private void kind(int t, int k) {
        int i = random.nextInt(7) - 1;
        String name = at(t) == null || k < 0 || k >= at(t).kinds.size() ? null : at(t).kinds.get(k);
        int want = name == null ? NO_INDEX : i < 0 || i >= name.length() ? -1 : name.charAt(i);
        due("kind " + t + " " + k + " " + i, want, () -> trial.x.kind(t, k, i));
    }

    private void time(int t, int r, int part) {
        Plain table = at(t);
        int want = NO_INDEX;
        if (table != null && r >= 0 && r <= table.rows.size()) {
            long[] time = r == table.rows.size() ? table.now : table.rows.get(r).time;
            want = part < 0 || part > 1 ? NO_ARGUMENT : table.misfit != 0 ? NO_STATE : (int) time[part];
        }
        due("time " + t + " " + r + " " + part, want, () -> trial.x.time(t, r, part));
    }

    private void length(int t, int r, int i, int part, Plain.Row row) {
        int want = NO_INDEX;
        if (row != null) {
            long[] length = row.sort != 4 ? null : Plain.length(row.strands.get(i).kind, row.tokens.get(i));
            want = part < 0 || part > 1 ? NO_ARGUMENT : length == null ? NO_STATE : (int) length[part];
        }
        due("length " + t + " " + r + " " + i + " " + part, want, () -> trial.x.length(t, r, i, part));
    }

    public static void main(String[] args) {
        int from = args.length > 0 ? Integer.parseInt(args[0]) : 0;
        int runs = args.length > 1 ? Integer.parseInt(args[1]) : 400;
        for (int seed = from; seed < from + runs; seed++) {
            new ModelTest(seed).run();
        }
        T.due("tables were assembled", assembled >= runs / 4, true);
        T.due("tables were extracted", extracted >= runs / 4, true);
        T.due("tables fit", fitting >= runs / 4, true);
        T.due("tables had faults", faulty >= runs / 8, true);
        System.out.println(assembled + " assembled, " + extracted + " extracted, " + fitting + " fit, " + faulty + " faults");
        T.end("ModelTest");
    }
}
