/**
 * "A call that throws, or answers below 0, changes nothing but THE TAPE and what fault() tells, where that is told."
 * All that an object tells is compared, with and without the call.
 */
public final class RefusedTest {
    private static final Trial T = new Trial();
    private static final int NONE = SpineTables.NONE, FULL = SpineTables.FULL, UNKNOWN = SpineTables.UNKNOWN;
    private static final int OTHER = SpineTables.OTHER, ROOM = SpineTables.ROOM;
    private static final int LEAST = Integer.MIN_VALUE, MOST = Integer.MAX_VALUE;
    private static final String LONG = "!!" + Trial.repeat("x", 1499);

    interface Call {
        long ask(SpineTables x);
    }

    private static Telling.State state = RefusedTest::someTables;
    private static String before = "";
    /** What it is when THE TAPE is empty besides. */
    private static String emptied = "";

    /** Tables 0, 1, 2, 4 and 5; "text" on THE TAPE; something in THE OUT; a FAULT was there. */
    private static void someTables(Trial trial) {
        trial.read(new String[] {"!!a", "**kern|**text", "*M1/4|*", "=1|=1", "4c|x", "=2|=2", "*-|*+", "*|**kern", "y|4d", "*-|*-"});
        trial.read(new String[] {"**kern", "!!b", "4c", "x", "*-"});
        trial.read(new String[] {"!!c"});
        trial.x.read();
        trial.read(new String[] {"**recip|**recip", "4|2", "=|=", "4|.", "*-|*-"});
        trial.read(new String[] {LONG});
        trial.x.drop(3);
        trial.x.write(4);
        trial.read("**kern\n*\t*");
        trial.tape("text");
    }

    private static void fullTables(Trial trial) {
        someTables(trial);
        trial.x.cut(0);
        trial.read(new String[] {"!!d"});
        trial.read(new String[] {"!!e"});
        trial.read(new String[] {"**text", "*-"});
        trial.tape("text");
    }

    private static void longTape(Trial trial) {
        someTables(trial);
        trial.x.cut(0);
        trial.tape("!!" + Trial.repeat("y", 2978) + "\n");
    }

    private static void begin(Telling.State fresh) {
        state = fresh;
        before = Telling.ofObject(state);
        emptied = Telling.ofObject(trial -> {
            state.bring(trial);
            trial.x.cut(0);
        });
        T.due("the state of the tape is told", before.equals(emptied), false);
    }

    /** The answer, or 1000 and more for what is thrown. */
    private static long answer(SpineTables x, Call call) {
        try {
            return call.ask(x);
        } catch (RuntimeException e) {
            if (e.getClass() == IndexOutOfBoundsException.class) {
                return 1001;
            }
            if (e.getClass() == IllegalArgumentException.class) {
                return 1002;
            }
            return e.getClass() == IllegalStateException.class ? 1003 : 1004;
        }
    }

    private static void compare(String what, String due, Call call) {
        String behind = Telling.ofObject(trial -> {
            state.bring(trial);
            answer(trial.x, call);
        });
        T.dueText("the state behind " + what, behind, due);
    }

    private static void same(String what, long due, Call call) {
        T.begin();
        state.bring(T);
        T.due(what, answer(T.x, call), due);
        compare(what, before, call);
    }

    private static void noIndex(String what, Call... calls) {
        for (Call call : calls) {
            same(what, 1001, call);
        }
    }

    private static void noArgument(String what, Call... calls) {
        for (Call call : calls) {
            same(what, 1002, call);
        }
    }

    private static void noState(String what, Call... calls) {
        for (Call call : calls) {
            same(what, 1003, call);
        }
    }

    private static void emptiesTape(String what, long due, Call call) {
        T.begin();
        state.bring(T);
        T.due(what, answer(T.x, call), due);
        compare(what, emptied, call);
    }

    private static void tape() {
        same("cut below 0", NONE, x -> x.cut(-1));
        same("cut of the least", NONE, x -> x.cut(LEAST));
        same("cut of more", NONE, x -> x.cut(5));
        same("cut of the most", NONE, x -> x.cut(MOST));
        same("cut of nothing", 0, x -> x.cut(4));
        same("fault", 4, x -> x.fault());
        same("out", '*', x -> x.out(0));
        same("out below 0", NONE, x -> x.out(-1));
        same("out behind all", NONE, x -> x.out(MOST));
        same("out of the least", NONE, x -> x.out(LEAST));
    }

    /** Of each call that names tables: one that is not there, ahead of what else is wrong. */
    private static void noTables() {
        for (int t : new int[] {3, 6, 7, 8, -1, LEAST, MOST}) {
            noIndex("table " + t, x -> x.drop(t), x -> x.told(t, 0), x -> x.told(t, 9), x -> x.row(t, 0, 0), x -> x.row(t, -1, 9),
                    x -> x.strand(t, 1, 0, 0), x -> x.strand(t, -1, -1, 9), x -> x.kind(t, 0, 0), x -> x.token(t, 0, 0, 0),
                    x -> x.walk(t), x -> x.misfit(t), x -> x.time(t, 0, 0), x -> x.time(t, -1, 9), x -> x.length(t, 4, 0, 0),
                    x -> x.length(t, -1, -1, 9), x -> x.bars(t), x -> x.extract(t), x -> x.assemble(t, 0), x -> x.assemble(0, t),
                    x -> x.assemble(1, t), x -> x.same(t, 0) ? 1 : 0, x -> x.same(0, t) ? 1 : 0, x -> x.same(t, t) ? 1 : 0, x -> x.write(t));
        }
    }

    /** One that is not there of ROWS, STRANDS and KINDS, ahead of a wrong what or part. */
    private static void noPlaces() {
        for (int r : new int[] {-1, 10, LEAST, MOST}) {
            noIndex("row " + r, x -> x.row(0, r, 0), x -> x.row(0, r, 2), x -> x.strand(0, r, 0, 0), x -> x.strand(0, r, 0, 4),
                    x -> x.token(0, r, 0, 0), x -> x.length(0, r, 0, 0), x -> x.length(0, r, 0, 2));
        }
        for (int r : new int[] {-1, 11, LEAST, MOST}) {
            noIndex("time of row " + r, x -> x.time(0, r, 0), x -> x.time(0, r, 2), x -> x.time(1, r, 0));
        }
        for (int i : new int[] {-1, 2, LEAST, MOST}) {
            noIndex("strand " + i, x -> x.strand(0, 4, i, 0), x -> x.strand(0, 4, i, 4), x -> x.token(0, 4, i, 0),
                    x -> x.length(0, 4, i, 0), x -> x.length(0, 4, i, 2), x -> x.length(0, 3, i, 0));
        }
        for (int i : new int[] {-1, 1, LEAST, MOST}) {
            noIndex("of a remark " + i, x -> x.strand(0, 0, i, 0), x -> x.token(0, 0, i, 0), x -> x.length(0, 0, i, 0), x -> x.token(0, 7, 2, 0));
        }
        noIndex("of a remark", x -> x.strand(0, 0, 0, 0), x -> x.strand(0, 0, 0, 4), x -> x.length(0, 0, 0, 0), x -> x.length(0, 0, 0, 2));
        for (int k : new int[] {-1, 2, LEAST, MOST}) {
            noIndex("kind " + k, x -> x.kind(0, k, 0), x -> x.kind(0, k, -1), x -> x.kind(2, 0, 0));
        }
    }

    private static void noWhats() {
        for (int what : new int[] {-1, LEAST, MOST}) {
            noArgument("what " + what, x -> x.told(0, what), x -> x.row(0, 0, what), x -> x.strand(0, 1, 0, what), x -> x.time(0, 0, what),
                    x -> x.time(1, 0, what), x -> x.length(0, 4, 0, what), x -> x.length(0, 3, 0, what), x -> x.length(1, 0, 0, what));
        }
        noArgument("told 7", x -> x.told(0, 7));
        noArgument("row 2", x -> x.row(0, 0, 2));
        noArgument("strand 4", x -> x.strand(0, 1, 0, 4));
        noArgument("time 2", x -> x.time(0, 10, 2), x -> x.time(1, 0, 2));
        noArgument("length 2", x -> x.length(0, 4, 0, 2), x -> x.length(0, 4, 1, 2));
    }

    private static void noStates() {
        noState("time of a misfit", x -> x.time(1, 0, 0), x -> x.time(1, 5, 1));
        noState("bars of a misfit", x -> x.bars(1));
        noState("length of another sort", x -> x.length(0, 1, 0, 0), x -> x.length(0, 3, 0, 1), x -> x.length(0, 9, 1, 0));
        noState("length without rhythm", x -> x.length(0, 4, 1, 0), x -> x.length(0, 8, 0, 1));
        noState("length of none", x -> x.length(1, 3, 0, 0), x -> x.length(4, 3, 1, 1));
    }

    /** Calls that only tell something. */
    private static void tells() {
        same("told", 10, x -> x.told(0, 0));
        same("told 6", 1502, x -> x.told(5, 6));
        same("row", 3, x -> x.row(0, 3, 0));
        same("strand", 5, x -> x.strand(0, 6, 1, 3));
        same("kind", 't', x -> x.kind(0, 1, 0));
        same("no byte of a kind", NONE, x -> x.kind(0, 1, 4));
        same("token", 'y', x -> x.token(0, 8, 0, 0));
        same("no byte of a token", NONE, x -> x.token(0, 8, 0, 1));
        same("walk", 3, x -> x.walk(1));
        same("walk of what fits", NONE, x -> x.walk(0));
        same("misfit", 1, x -> x.misfit(1));
        same("time", 1, x -> x.time(0, 10, 0));
        same("length", 4, x -> x.length(0, 8, 1, 1));
        same("bars", NONE, x -> x.bars(0));
        same("same", 0, x -> x.same(0, 1) ? 1 : 0);
        same("same of one", 1, x -> x.same(4, 4) ? 1 : 0);
        same("write of the same", 34, x -> x.write(4));
    }

    private static void makers() {
        emptiesTape("a kind that is unknown", UNKNOWN, x -> x.extract(4));
        emptiesTape("a kind of no record", UNKNOWN, x -> x.extract(2));
        same("bars that do not meet", OTHER, x -> x.assemble(0, 4));
        same("a misfit", OTHER, x -> x.assemble(1, 2));
        same("a misfit at the right", OTHER, x -> x.assemble(2, 1));
        same("too many bytes", ROOM, x -> x.assemble(5, 5));
        emptiesTape("a strand that began by another one", OTHER, x -> {
            x.cut(0);
            x.feed(Trial.number("kern", 0), 0, 0, 0, 0);
            x.cut(4);
            return x.extract(0);
        });
    }

    /** A read() with a FAULT empties THE TAPE and tells the FAULT; nothing else changes. */
    private static void faults() {
        T.begin();
        someTables(T);
        T.due("read with a fault", T.x.read(), -10);
        T.due("its code", T.x.fault(), 3);
        T.due("the fault of before is told", emptied.startsWith("fault 4\n"), true);
        compare("a fault", emptied.replaceFirst("fault 4\n", "fault 3\n"), x -> x.read());
    }

    private static void full() {
        begin(RefusedTest::fullTables);
        emptiesTape("read when full", FULL, x -> x.read());
        emptiesTape("extract when full", FULL, x -> x.extract(7));
        emptiesTape("extract of what is unknown when full", UNKNOWN, x -> x.extract(1));
        same("assemble when full", FULL, x -> x.assemble(2, 2));
        same("assemble of too much when full", FULL, x -> x.assemble(5, 5));
        same("assemble of a misfit when full", OTHER, x -> x.assemble(1, 5));
        same("fault is that of the latest read not full", 0, x -> x.fault());
        same("a throw", 1001, x -> x.extract(8));
    }

    private static void longest() {
        begin(RefusedTest::longTape);
        same("feed beyond 3000", NONE, x -> x.feed(1, 2, 3, 4, 5));
        same("cut of more", NONE, x -> x.cut(2982));
        same("cut of all", 0, x -> x.cut(2981));
    }

    public static void main(String[] args) {
        begin(RefusedTest::someTables);
        tape();
        noTables();
        noPlaces();
        noWhats();
        noStates();
        tells();
        makers();
        faults();
        full();
        longest();
        T.end("RefusedTest");
    }
}
