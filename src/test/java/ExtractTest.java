/** Promise 17: extract. */
public final class ExtractTest {
    private static final Trial T = new Trial();

    private static void due(String kind, String[] from, String... due) {
        T.begin();
        T.due("read", T.read(from), 0);
        T.due("extract of " + kind, T.extract(0, kind), 1);
        T.dueText("extract of " + kind, T.written(1), Trial.rows(due));
        T.dueText("what it came from", T.written(0), Trial.rows(from));
        T.due("the tape is empty", T.x.cut(1), SpineTables.NONE);
        T.due("it has one kind", T.x.told(1, 4), 1);
        T.due("its text is right", T.read(T.written(1)), 2);
        T.due("and is the same", T.x.same(1, 2), true);
    }

    private static void strands() {
        String[] table = {
            "!!x", "**kern|**text", "*I|*", "!|!n", "*^|*", "4c|8d|la", ".|8e|.", "=1|=1|=1", "!!y",
            "*v|*v|*", "*x|*x", ".|4c", "lo|4d", "*|*-", "!!z", "!m", "=2", "*-"};
        due("kern", table, "**kern", "*I", "*^", "4c|8d", ".|8e", "=1|=1", "*v|*v", "4c", "4d", "*-");
        due("text", table, "**text", "!n", "la", "=1", "lo", "!m", "=2", "*-");
    }

    private static void swaps() {
        due("a", new String[] {"**a|**a|**b", "*|*x|*x", "*|*|*", "*-|*-|*-"}, "**a|**a", "*-|*-");
        due("a", new String[] {"**a|**a|**b", "*x|*x|*", "*-|*-|*-"}, "**a|**a", "*x|*x", "*-|*-");
        due("b", new String[] {"**a|**b", "*x|*x", "*M1/1|*", "*-|*-"}, "**b", "*M1/1", "*-");
        due("a", new String[] {"**a|**a|**b", "*K|*x|*x", "*-|*-|*-"}, "**a|**a", "*K|*", "*-|*-");
    }

    private static void begins() {
        String[] table = {"**a|**b", "*+|*", "!!x", "*|**a|*", "*|*+|*", "*|*|**c|*", "x|y|z|w", "*-|*-|*-|*-"};
        due("a", table, "**a", "*+", "*|**a", "x|y", "*-|*-");
        due("b", table, "**b", "w", "*-");
        due("a", new String[] {"**a|**b", "*+|*K", "*^|**c|*", "*-|*-|*-|*-"}, "**a", "*^", "*-|*-");
        T.begin();
        T.read(table);
        T.due("a kind that is not in the first record", T.extract(0, "c"), SpineTables.UNKNOWN);
        T.due("drop", T.x.drop(0), 8);
        T.read(new String[] {"**a|**b", "*|*+", "*|*|**a", "*-|*-|*-"});
        T.due("it began by another kind", T.extract(0, "a"), SpineTables.OTHER);
        T.due("the tape is empty", T.x.cut(1), SpineTables.NONE);
        T.due("the other kind is right", T.extract(0, "b"), 1);
    }

    private static void endedAndEmpty() {
        due("a", new String[] {"**a|**b", "*-|*", "=", "x", "*", "*-"}, "**a", "*-");
        due("a", new String[] {"**a|**a|**b", ".|.|x", "*|*|*K", "!|!|!n", ".|y|.", "=|=|=", "*-|*-|*-"}, "**a|**a", ".|y", "=|=", "*-|*-");
    }

    private static void reckonedAnew() {
        T.begin();
        T.read(new String[] {"!!x", "**text|**kern", "*|*^", "a|4c|2d", "b|4e|.", "*-|*-|*-"});
        T.extract(0, "kern");
        T.due("number", T.x.strand(1, 2, 1, 1), 0);
        T.due("held", T.x.strand(1, 3, 1, 2), 2);
        T.due("kind", T.x.strand(1, 3, 1, 0), 0);
        T.due("time above", T.x.time(1, 3, 0), 1);
        T.due("time below", T.x.time(1, 3, 1), 4);
        T.due("rows", T.x.told(1, 0), 5);
        T.due("its text", T.extract(0, "text"), 2);
        T.due("does not fit", T.x.misfit(2), 4);
        T.due("at", T.x.walk(2), 1);
    }

    /** NOTES whose LINE begins with !! when the TOKENS ahead have gone are a REMARK, with all that follows from it. */
    private static void notesThatBecomeRemarks() {
        T.begin();
        T.read(new String[] {
            "**text|**kern|**kern", "a|4c|4d", "!|!!x|!y", "*|*^|*", "b|4e|4f|4g", "!n|!!|!|!!z", "!|!|!!w|!", "*-|*-|*-|*-"});
        T.due("extract", T.extract(0, "kern"), 1);
        T.dueText("written", T.written(1), Trial.rows(
                "**kern|**kern", "4c|4d", "!!x|!y", "*^|*", "4e|4f|4g", "!!|!|!!z", "!|!!w|!", "*-|*-|*-"));
        int[] sorts = {2, 4, 0, 2, 4, 0, 1, 2};
        int[] tokens = {2, 2, 0, 2, 3, 0, 3, 3};
        for (int r = 0; r < sorts.length; r++) {
            T.due("sort of " + r, T.x.row(1, r, 0), sorts[r]);
            T.due("tokens of " + r, T.x.row(1, r, 1), tokens[r]);
        }
        T.due("rows", T.x.told(1, 0), 8);
        T.due("records", T.x.told(1, 1), 6);
        T.due("most tokens", T.x.told(1, 5), 3);
        T.noIndex("a remark has no strand", () -> T.x.strand(1, 2, 0, 0));
        T.noIndex("a remark has no strand, whatever is asked", () -> T.x.strand(1, 5, 1, 9));
        T.noIndex("a remark has no lengths", () -> T.x.length(1, 2, 0, 0));
        T.due("its line has the byte 9", T.x.token(1, 2, 0, 3), 9);
        T.due("and what is behind it", T.x.token(1, 2, 0, 5), 'y');
        T.due("and then ends", T.x.token(1, 2, 0, 6), SpineTables.NONE);
        T.noIndex("a remark is one line", () -> T.x.token(1, 2, 1, 0));
        T.due("held goes on behind it", T.x.strand(1, 3, 1, 2), 1);
        T.due("number of the last strand behind it", T.x.strand(1, 6, 2, 1), 1);
        T.due("the length of a token behind it", T.x.length(1, 4, 2, 1), 4);
        T.due("fits", T.x.walk(1), SpineTables.NONE);
        T.due("the time behind all, above", T.x.time(1, 8, 0), 1);
        T.due("the time behind all, below", T.x.time(1, 8, 1), 2);
        T.due("read again", T.read(T.written(1)), 2);
        T.due("is the same", T.x.same(1, 2), true);
    }

    /** Those REMARKS go when EXTRACT is taken of EXTRACT, and are put alone by ASSEMBLE. */
    private static void remarksThatWereNotes() {
        T.begin();
        T.read(new String[] {"**text|**kern", "!|!!x", "a|4c", "!|!!y", "*-|*-", "!!z"});
        T.due("extract", T.extract(0, "kern"), 1);
        T.due("extract again", T.extract(1, "kern"), 2);
        T.dueText("without remarks", T.written(2), Trial.rows("**kern", "4c", "*-"));
        T.due("assemble", T.x.assemble(1, 2), 3);
        T.dueText("remarks at the left", T.written(3), Trial.rows("**kern|**kern", "!!x", "4c|4c", "!!y", "*-|*", "*-"));
        T.due("assemble, changed about", T.x.assemble(2, 1), 4);
        T.dueText("remarks at the right", T.written(4), Trial.rows("**kern|**kern", "!!x", "4c|4c", "*-|*", "!!y", "*-"));
    }

    private static void answers() {
        T.begin();
        T.read(new String[] {"**kern|**a", "*-|*-"});
        for (String wrong : new String[] {"", "ker", "kern ", "**kern", "Kern", "abcdefghijklmnopqrstuvwxyz"}) {
            T.due("extract of [" + wrong + "]", T.extract(0, wrong), SpineTables.UNKNOWN);
            T.due("the tape is empty behind it", T.x.cut(1), SpineTables.NONE);
        }
        T.tape("kern");
        T.noIndex("extract of no table", () -> T.x.extract(1));
        T.noIndex("extract of -1", () -> T.x.extract(-1));
        T.due("a throw leaves the tape alone", T.x.cut(4), 0);
        T.due("extract with it", T.x.extract(0), 1);
        T.due("fault is that of read", T.x.fault(), 0);
        T.due("no record", T.read("!!x"), 2);
        T.due("extract of none", T.extract(2, "kern"), SpineTables.UNKNOWN);
    }

    private static void full() {
        T.begin();
        T.read(new String[] {"**kern|**a", "*+|*", "*|**a|*", "*-|*-|*-"});
        for (int t = 1; t < 8; t++) {
            T.due("read", T.read("!!x"), t);
        }
        T.due("full", T.extract(0, "kern"), SpineTables.FULL);
        T.due("the tape is empty", T.x.cut(1), SpineTables.NONE);
        T.due("unknown comes ahead of full", T.extract(0, "b"), SpineTables.UNKNOWN);
        T.due("other comes ahead of full", T.extract(0, "a"), SpineTables.OTHER);
        T.x.drop(4);
        T.due("the least that is free", T.extract(0, "kern"), 4);
    }

    public static void main(String[] args) {
        strands();
        swaps();
        begins();
        endedAndEmpty();
        reckonedAnew();
        notesThatBecomeRemarks();
        remarksThatWereNotes();
        answers();
        full();
        T.end("ExtractTest");
    }
}
