/** What extract and assemble make is, in all that is told of it, the table that is read from its text. */
public final class RereadTest {
    private static final Trial T = new Trial();
    private static int remarksFromNotes = 0;
    private static int assembled = 0;

    private static String written(Telling.Making making) {
        T.begin();
        return T.written(making.make(T));
    }

    private static void dueAlike(String what, Telling.Making made) {
        String text = written(made);
        T.dueText(what + " of\n" + text, Telling.of(made), Telling.of(trial -> trial.read(text)));
    }

    private static boolean isRight(String text) {
        T.begin();
        return T.read(text) == 0;
    }

    private static void extracts(String text, String kind, String other) {
        Telling.Making made = trial -> trial.extract(trial.read(text), kind);
        T.begin();
        if (made.make(T) < 0) {
            return;
        }
        dueAlike("extract", made);
        String extracted = written(made);
        if (extracted.contains("\n!!")) {
            remarksFromNotes++;
        }
        Telling.Making reread = trial -> trial.read(extracted);
        sideBySide(made, reread, other);
        Telling.Making again = trial -> trial.extract(made.make(trial), kind);
        dueAlike("extract of extract", again);
    }

    /** An extracted table and the one read from its text are put beside another one alike. */
    private static void sideBySide(Telling.Making made, Telling.Making reread, String other) {
        Telling.Making left = trial -> trial.x.assemble(made.make(trial), trial.read(other));
        Telling.Making leftAgain = trial -> trial.x.assemble(reread.make(trial), trial.read(other));
        Telling.Making right = trial -> trial.x.assemble(trial.read(other), made.make(trial));
        T.begin();
        int answer = left.make(T);
        T.begin();
        T.due("assemble of a table that was read", Math.min(leftAgain.make(T), 0), Math.min(answer, 0));
        if (answer >= 0) {
            assembled++;
            T.dueText("assemble of both", written(left), written(leftAgain));
            dueAlike("assemble", left);
        }
        T.begin();
        if (right.make(T) >= 0) {
            dueAlike("assemble at the right", right);
        }
    }

    public static void main(String[] args) {
        for (int seed = 0; seed < 400; seed++) {
            Texts texts = new Texts(seed);
            String text = texts.right();
            String other = texts.right();
            for (String kind : Texts.KINDS) {
                if (isRight(text) && isRight(other)) {
                    extracts(text, kind, other);
                }
            }
        }
        T.due("tables in which NOTES became REMARKS were tried", remarksFromNotes >= 50, true);
        T.due("tables were put side by side", assembled >= 50, true);
        T.end("RereadTest");
    }
}
