/** All that a table tells, as one text. The object is made anew in time: behind 512 calls nothing is promised. */
final class Telling {
    /** Makes a table on a new object, with three hundred calls at most, and answers its number. */
    interface Making {
        int make(Trial trial);
    }

    /** Brings a new object, with three hundred calls at most, into a state. */
    interface State {
        void bring(Trial trial);
    }

    private static final int MOST_ASKED = 200;

    private final Trial trial = new Trial();
    private final Making making;
    private final StringBuilder told = new StringBuilder();
    private int t = 0;
    private int asked = MOST_ASKED;

    private Telling(Making making) {
        this.making = making;
    }

    static String of(Making making) {
        Telling telling = new Telling(making);
        telling.ofTable();
        return telling.told.toString();
    }

    /** All that an object tells: its tables, THE OUT, fault(), and THE TAPE by what is read from it. */
    static String ofObject(State state) {
        Making remade = trial -> {
            state.bring(trial);
            return 0;
        };
        Telling telling = new Telling(remade);
        telling.ask("fault", () -> telling.trial.x.fault());
        telling.ofOut();
        StringBuilder all = new StringBuilder(telling.told);
        for (int t = -1; t < 9; t++) {
            int table = t;
            all.append("table ").append(t).append('\n').append(of(trial -> remade.make(trial) + table));
        }
        return all.append(ofTape(state)).toString();
    }

    /** A place is made free for what is read. */
    private static String ofTape(State state) {
        Making read = trial -> {
            state.bring(trial);
            trial.x.drop(0);
            return trial.x.read();
        };
        Trial trial = new Trial();
        int t = read.make(trial);
        return "tape " + t + " " + trial.x.fault() + "\n" + of(read);
    }

    private void ofOut() {
        int last = 0;
        for (int i = 0; i < 100 && last >= 0; i++) {
            int at = i;
            last = ask("out", () -> trial.x.out(at));
        }
    }

    private void ofTable() {
        int rows = ask("rows", () -> trial.x.told(t, 0));
        for (int what = 1; what < 7; what++) {
            int asks = what;
            ask("told " + what, () -> trial.x.told(t, asks));
        }
        ask("walk", () -> trial.x.walk(t));
        ask("misfit", () -> trial.x.misfit(t));
        ask("bars", () -> trial.x.bars(t));
        for (int r = 0; r <= rows; r++) {
            ofRow(r);
        }
        int kinds = ask("kinds", () -> trial.x.told(t, 4));
        for (int k = 0; k <= kinds; k++) {
            for (int i = 0; i < 9; i++) {
                int kind = k;
                int at = i;
                ask("kind", () -> trial.x.kind(t, kind, at));
            }
        }
    }

    private void ofRow(int r) {
        ask("sort of " + r, () -> trial.x.row(t, r, 0));
        int tokens = ask("tokens of " + r, () -> trial.x.row(t, r, 1));
        ask("time of " + r, () -> trial.x.time(t, r, 0));
        ask("time of " + r, () -> trial.x.time(t, r, 1));
        for (int i = 0; i <= Math.max(tokens, 1); i++) {
            ofToken(r, i);
        }
    }

    private void ofToken(int r, int i) {
        for (int what = 0; what < 4; what++) {
            int asks = what;
            ask("strand " + i, () -> trial.x.strand(t, r, i, asks));
        }
        ask("length", () -> trial.x.length(t, r, i, 0));
        ask("length", () -> trial.x.length(t, r, i, 1));
        int last = 0;
        for (int k = 0; k < 60 && last >= 0; k++) {
            int at = k;
            last = ask("byte", () -> trial.x.token(t, r, i, at));
        }
    }

    /** What is thrown is a telling, too; its answer is below all others. */
    private int ask(String what, Trial.Call call) {
        if (asked >= MOST_ASKED) {
            trial.begin();
            t = making.make(trial);
            asked = 0;
        }
        asked++;
        int answer = Integer.MIN_VALUE;
        String text;
        try {
            answer = (int) call.answer();
            text = Integer.toString(answer);
        } catch (RuntimeException e) {
            text = e.getClass().getName();
        }
        told.append(what).append(' ').append(text).append('\n');
        return answer;
    }
}
