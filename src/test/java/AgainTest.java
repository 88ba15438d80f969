/** An object that has been used before makes and tells the same tables as a new one. */
public final class AgainTest {
    private static final Trial T = new Trial();
    private static final int NONE = SpineTables.NONE, OTHER = SpineTables.OTHER, ROOM = SpineTables.ROOM;
    private static final String TABLE = Trial.rows("!!a", "**kern|**text", "*M1/4|*", "=1|=1", "*^|*", "4c|4d|x", "=2|=2|=2", "*v|*v|*+",
            "*|*|**dyn", "!|!n|!", "2e|.|f", "*-|*-|*-");
    private static final String OTHER_TABLE = Trial.rows("**dyn|**recip", "*|*", "p|8", ".|8", "*-|*-");
    private static final String[] TEXTS = {"", "!!", TABLE, OTHER_TABLE, Trial.rows("**text", "x", "*-")};

    /** Texts with a FAULT of each code, behind something that could be left over. */
    private static final String[] WRONG = {
        Trial.rows("!!x", "**a|**b|**c", "x|y|z", "*^|*|*") + "a\tb\t\u0080", Trial.rows("**a|**b", "x|y", "|"), Trial.rows("**d|**e|**f|x"),
        Trial.rows("**kern|**kern", "4c|4d", "4e"), Trial.rows("**kern|**kern", "4c|4d", "=|4e"), Trial.rows("**recip|**kern", "4|4c", "*v|*v"),
        Trial.rows(Trial.all(12, "**a"), Trial.all(12, "*^")), Trial.rows("**a", "*+", "*|**b", "*+|*", "*|**c|*")};

    private static void alike(String what, Telling.State before, Telling.Making making) {
        dueAlike(what, trial -> {
            before.bring(trial);
            return making.make(trial);
        }, making);
    }

    private static void dueAlike(String what, Telling.Making used, Telling.Making fresh) {
        T.dueText(what, Telling.of(used), Telling.of(fresh));
    }

    private static void behindFaults() {
        for (int code = 1; code <= 8; code++) {
            String wrong = WRONG[code - 1];
            T.begin();
            T.due("read", T.read(wrong) < 0, true);
            T.due("fault", T.x.fault(), code);
            for (String text : TEXTS) {
                alike("read behind fault " + code, trial -> trial.read(wrong), trial -> trial.read(text));
            }
            alike("extract behind fault " + code, trial -> {
                trial.read(TABLE);
                trial.read(wrong);
                trial.x.drop(0);
            }, trial -> trial.extract(trial.read(TABLE), "kern"));
            alike("assemble behind fault " + code, trial -> trial.read(wrong), trial -> trial.x.assemble(trial.read(OTHER_TABLE), trial.read(OTHER_TABLE)));
        }
    }

    /** A place that is free again, and what stood there. */
    private static void behindDrops() {
        for (String text : TEXTS) {
            for (String gone : TEXTS) {
                alike("read behind drop", trial -> {
                    trial.read(gone);
                    trial.read(gone);
                    trial.x.drop(0);
                }, trial -> trial.read(text));
            }
        }
        alike("read behind extract", trial -> {
            trial.read(TABLE);
            trial.extract(0, "text");
            trial.x.drop(1);
            trial.x.drop(0);
        }, trial -> trial.read(OTHER_TABLE));
    }

    /** BARS that do not meet, and what is too much, leave nothing to the next ASSEMBLE. */
    private static void behindAssemble() {
        Telling.State other = trial -> {
            trial.read(Trial.rows("**recip|**a", "4|x", "=1|=1", "*-|*-"));
            trial.read(Trial.rows("**recip|**a|**b", "4|x|y", "=2|=1|=1", "*-|*-|*-"));
            T.due("other", trial.x.assemble(0, 1), OTHER);
            T.due("other", trial.x.assemble(1, 0), OTHER);
        };
        Telling.State room = trial -> {
            trial.read(Trial.rows(Trial.all(7, "**recip"), Trial.all(7, "4"), Trial.all(7, "*-")));
            T.due("room", trial.x.assemble(0, 0), ROOM);
        };
        Telling.Making without = trial -> trial.x.assemble(trial.read("!!x\n!!y"), trial.read(OTHER_TABLE));
        Telling.Making withoutRight = trial -> trial.x.assemble(trial.read(OTHER_TABLE), trial.read("!!x\n!!y"));
        Telling.Making both = trial -> trial.x.assemble(trial.read(OTHER_TABLE), trial.read(Trial.rows("!!", "**kern", "=", "*-", "!!")));
        for (Telling.State before : new Telling.State[] {other, room}) {
            alike("assemble with remarks", before, without);
            alike("assemble with remarks at the right", before, withoutRight);
            alike("assemble", before, both);
            alike("read", before, trial -> trial.read(TABLE));
            alike("extract", before, trial -> trial.extract(trial.read(TABLE), "kern"));
        }
    }

    /** THE METER of one table does not count in another one, nor in the same one asked again. */
    private static void bars() {
        T.begin();
        T.due("with a meter", T.read(Trial.rows("**recip", "*M1/4", "=", "2", "=", "*-")), 0);
        T.due("without", T.read(Trial.rows("**recip", "=", "2", "=", "4", "=", "*-")), 1);
        T.due("with another", T.read(Trial.rows("**recip", "=", "2", "=", "*M1/4", "4", "=", "*-")), 2);
        for (int n = 0; n < 3; n++) {
            T.due("bars of the first", T.x.bars(0), 4);
            T.due("bars of the second", T.x.bars(1), NONE);
            T.due("bars of the third", T.x.bars(2), NONE);
        }
    }

    /** Eight tables stand beside each other, and each tells its own. */
    private static void eightTables() {
        for (int t = 0; t < 8; t++) {
            int place = t;
            dueAlike("table " + t, trial -> {
                for (int n = 0; n < 8; n++) {
                    trial.read(OTHER_TABLE);
                }
                for (int n = 0; n < 8; n++) {
                    trial.x.drop(n);
                    trial.read(n == place ? TABLE : "!!" + n);
                }
                return place;
            }, trial -> trial.read(TABLE));
        }
        T.begin();
        for (int n = 0; n < 8; n++) {
            T.due("read", T.read("!!" + n), n);
        }
        for (int n = 0; n < 8; n++) {
            T.due("the byte of its own", T.x.token(n, 0, 0, 2), '0' + n);
        }
    }

    /** What cut() has taken away is not looked at: a text ends where THE TAPE ends. */
    private static void cutAway() {
        String[] texts = {TABLE, "**a\n*^\n*-\t*-\n!!\n!!!\n", "**a\n*-\n!!x\n***\n!!", "**kern\n4cc##;\n*M1/4\n**b\n*+\n*v\n"};
        for (String text : texts) {
            for (int n = 0; n <= text.length(); n++) {
                int size = n;
                T.begin();
                T.tape(text);
                T.x.cut(size);
                int answer = T.x.read();
                int fault = T.x.fault();
                T.begin();
                T.due("read of the first " + n + " bytes", answer, T.read(text.substring(0, size)));
                T.due("fault of the first " + n + " bytes", fault, T.x.fault());
                if (answer >= 0) {
                    dueAlike("the first " + n + " bytes", trial -> {
                        trial.tape(text);
                        trial.x.cut(size);
                        return trial.x.read();
                    }, trial -> trial.read(text.substring(0, size)));
                }
            }
        }
        T.begin();
        T.tape("**a\n*-\n!!");
        T.x.cut(8);
        T.due("one ! is no remark", T.x.read(), -17);
        T.due("its fault", T.x.fault(), 4);
        T.tape("**a\n**");
        T.x.cut(5);
        T.due("one * is an act that does nothing", T.x.read(), -15);
        T.due("its fault", T.x.fault(), 8);
        T.tape("**a\n*-");
        T.x.cut(5);
        T.due("one * ends nothing", T.x.read(), -15);
    }

    public static void main(String[] args) {
        behindFaults();
        behindDrops();
        behindAssemble();
        bars();
        eightTables();
        cutAway();
        T.end("AgainTest");
    }
}
