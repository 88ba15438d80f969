import java.util.ArrayList;
import java.util.List;
import java.util.Random;

/** What extract and assemble make is, in all that is told of it, the table that is read from its text. */
public final class RereadTest {
    private static final Trial T = new Trial();
    private static final String[] KINDS = {"kern", "recip", "text"};
    private static final String[] NOTES = {"!", "!", "!n", "!!", "!!x"};
    private static final String[] LENGTHS = {"4", "8", "2."};
    private static int remarksFromNotes = 0;
    private static int assembled = 0;

    private final Random random;
    private final List<String> strands = new ArrayList<>();
    private final List<String> rows = new ArrayList<>();

    private RereadTest(long seed) {
        random = new Random(seed);
    }

    private String one(String... of) {
        return of[random.nextInt(of.length)];
    }

    /** A right text with a few of all SORTS; its DATA fit most of the time. */
    private String text() {
        strands.clear();
        rows.clear();
        for (int i = random.nextInt(3); i >= 0; i--) {
            strands.add(one(KINDS));
        }
        put("**" + String.join("|**", strands));
        for (int n = 3 + random.nextInt(7); n > 0; n--) {
            putAny();
        }
        put("*-" + "|*-".repeat(strands.size() - 1));
        return Trial.rows(rows.toArray(new String[0]));
    }

    private void put(String row) {
        rows.add(row);
    }

    private void putAny() {
        switch (random.nextInt(6)) {
            case 0:
                put("!!" + one("", "a", "b|c"));
                break;
            case 1:
            case 2:
                putNotes();
                break;
            case 3:
                putActs();
                break;
            case 4:
                put("=" + "|=".repeat(strands.size() - 1));
                break;
            default:
                putData();
        }
    }

    private void putNotes() {
        List<String> tokens = new ArrayList<>();
        tokens.add(one("!", "!n"));
        while (tokens.size() < strands.size()) {
            tokens.add(one(NOTES));
        }
        put(String.join("|", tokens));
    }

    private void putData() {
        List<String> tokens = new ArrayList<>();
        String length = one(LENGTHS);
        for (String kind : strands) {
            String own = random.nextInt(30) == 0 ? one(LENGTHS) : length;
            tokens.add(kind.equals("kern") ? own + "c" : kind.equals("recip") ? own : one(".", "x"));
        }
        put(String.join("|", tokens));
    }

    private void putActs() {
        int i = random.nextInt(strands.size());
        boolean hasNext = i + 1 < strands.size();
        if (random.nextBoolean() && strands.size() < 5) {
            putGrowth(i);
        } else if (hasNext && strands.get(i).equals(strands.get(i + 1))) {
            putAct(i, "*v", "*v");
            strands.remove(i);
        } else if (hasNext) {
            putAct(i, "*x", "*x");
            strands.add(i, strands.remove(i + 1));
        } else if (strands.size() > 1 && random.nextBoolean()) {
            putAct(i, "*-");
            strands.remove(i);
        } else {
            putAct(i, one("*M3/4", "*"));
        }
    }

    private void putGrowth(int i) {
        if (random.nextBoolean()) {
            putAct(i, "*^");
            strands.add(i + 1, strands.get(i));
            return;
        }
        putAct(i, "*+");
        strands.add(i + 1, one(strands.get(i), one(KINDS)));
        putAct(i + 1, "**" + strands.get(i + 1));
    }

    /** A RECORD that has these TOKENS from STRAND i on, and * else. */
    private void putAct(int i, String... acts) {
        List<String> tokens = new ArrayList<>();
        for (int n = 0; n < strands.size(); n++) {
            tokens.add(n >= i && n < i + acts.length ? acts[n - i] : "*");
        }
        put(String.join("|", tokens));
    }

    private static String written(Telling.Making making) {
        T.begin();
        return T.written(making.make(T));
    }

    private static void dueAlike(String what, Telling.Making made) {
        String text = written(made);
        T.dueText(what + " of\n" + text, Telling.of(made), Telling.of(trial -> trial.read(text)));
    }

    private static void extracts(String text, String kind, String other) {
        Telling.Making made = trial -> trial.extract(trial.read(text), kind);
        T.begin();
        if (made.make(T) < 0) {
            return;
        }
        dueAlike("extract", made);
        String extracted = written(made);
        if (extracted.contains("\n!!")) {
            remarksFromNotes++;
        }
        Telling.Making reread = trial -> trial.read(extracted);
        sideBySide(made, reread, other);
        Telling.Making again = trial -> trial.extract(made.make(trial), kind);
        dueAlike("extract of extract", again);
    }

    /** An extracted table and the one read from its text are put beside another one alike. */
    private static void sideBySide(Telling.Making made, Telling.Making reread, String other) {
        Telling.Making left = trial -> trial.x.assemble(made.make(trial), trial.read(other));
        Telling.Making leftAgain = trial -> trial.x.assemble(reread.make(trial), trial.read(other));
        Telling.Making right = trial -> trial.x.assemble(trial.read(other), made.make(trial));
        T.begin();
        int answer = left.make(T);
        T.begin();
        T.due("assemble of a table that was read", Math.min(leftAgain.make(T), 0), Math.min(answer, 0));
        if (answer >= 0) {
            assembled++;
            T.dueText("assemble of both", written(left), written(leftAgain));
            dueAlike("assemble", left);
        }
        T.begin();
        if (right.make(T) >= 0) {
            dueAlike("assemble at the right", right);
        }
    }

    public static void main(String[] args) {
        for (int seed = 0; seed < 400; seed++) {
            RereadTest test = new RereadTest(seed);
            String text = test.text();
            String other = test.text();
            T.begin();
            T.due("read of\n" + text, T.read(text), 0);
            for (String kind : KINDS) {
                extracts(text, kind, other);
            }
        }
        T.due("tables in which NOTES became REMARKS were tried", remarksFromNotes >= 50, true);
        T.due("tables were put side by side", assembled >= 50, true);
        T.end("RereadTest");
    }
}
