/** Promise 18: assemble. */
public final class AssembleTest {
    private static final Trial T = new Trial();
    private static final int OTHER = SpineTables.OTHER, ROOM = SpineTables.ROOM, FULL = SpineTables.FULL;

    private static String[] rows(String... rows) {
        return rows;
    }

    private static int put(String[] a, String[] b) {
        T.begin();
        T.due("read of a", T.read(a), 0);
        T.due("read of b", T.read(b), 1);
        return T.x.assemble(0, 1);
    }

    private static void due(String[] a, String[] b, String... due) {
        T.due("assemble", put(a, b), 2);
        T.dueText("assembled", T.written(2), Trial.rows(due));
        T.dueText("a stays", T.written(0), Trial.rows(a));
        T.dueText("b stays", T.written(1), Trial.rows(b));
        T.due("its text is right", T.read(T.written(2)), 3);
        T.due("and is the same", T.x.same(2, 3), true);
    }

    private static void other(String[] a, String[] b) {
        T.due("assemble", put(a, b), OTHER);
        T.due("changed about", T.x.assemble(1, 0), OTHER);
        T.noIndex("nothing was made", () -> T.x.told(2, 0));
    }

    private static void inTime() {
        due(rows("**kern", "4c", "2d", "*-"), rows("**recip", "2", "4", "*-"),
                "**kern|**recip", "4c|2", "2d|.", ".|4", "*-|*", "*-");
        due(rows("**recip", "2", "4", "*-"), rows("**kern", "4c", "2d", "*-"),
                "**recip|**kern", "2|4c", ".|2d", "4|.", "*-|*", "*-");
        due(rows("**kern", "1c", "*-"), rows("**kern|**text", "2d|x", "4e|y", "4f|z", "*-|*-"),
                "**kern|**kern|**text", "1c|2d|x", ".|4e|y", ".|4f|z", "*-|*|*", "*-|*-");
        due(rows("**kern", "4c", "*-"), rows("**kern", "2d", "=", "4e", "*-"),
                "**kern|**kern", "4c|2d", "*-|*", "=", "4e", "*-");
    }

    private static void remarksAndOthers() {
        due(rows("!!a", "!!b", "**kern", "!!c", "*I", "!n", "4c", "!!d", "*-", "!!e"),
                rows("!!A", "**kern", "!N", "!!B", "*K", "4d", "*-", "!!E"),
                "!!a", "!!b", "!!A", "**kern|**kern", "!!c", "*I|*", "!n|!", "!|!N", "!!B", "*|*K", "4c|4d", "!!d", "*-|*", "!!e", "*-", "!!E");
    }

    private static void strandsComeAndGo() {
        due(rows("**kern", "*^", "4c|4d", "*v|*v", "4e", "*-"), rows("**recip", "*+", "!!x", "*|**text", "4|a", "*|*-", "4", "*-"),
                "**kern|**recip", "*^|*", "*|*|*+", "!!x", "*|*|*|**text", "4c|4d|4|a", "*v|*v|*|*", "*|*|*-", "4e|4", "*-|*", "*-");
        // Behind a *+ the ROWS up to the next RECORD come at once, also where that has a *+ again.
        due(rows("**text", "*+", "!!1", "*+|**kern", "!!2", "*|**text|*", "!!3", "x|y|4c", "*-|*-|*-"),
                rows("**recip", "!!A", "*+", "!!B", "*|**recip", "4|4", "*-|*-"),
                "**text|**recip", "*+|*", "!!1", "*+|**kern|*", "!!2", "*|**text|*|*", "!!3", "!!A", "*|*|*|*+", "!!B",
                "*|*|*|*|**recip", "x|y|4c|4|4", "*-|*-|*-|*|*", "*-|*-");
        due(rows("**recip|**text", "4|x", "*-|*", "*-"), rows("**recip", "4", "*", "*-"),
                "**recip|**text|**recip", "4|x|4", "*-|*|*", "*-|*", "*", "*-");
    }

    private static void bars() {
        String[] a = rows("**kern", "4c", "=1", "4d", "=", "*-");
        due(a, rows("**kern|**text", "4e|x", "=1|=9", "4f|y", "=|=8", "*-|*-"),
                "**kern|**kern|**text", "4c|4e|x", "=1|=1|=9", "4d|4f|y", "=|=|=8", "*-|*|*", "*-|*-");
        other(a, rows("**kern", "4e", "=2", "4f", "=", "*-"));
        other(a, rows("**kern", "4e", "=", "4f", "=", "*-"));
        other(a, rows("**kern", "4e", "4f", "=", "*-"));
        other(a, rows("**kern", "2e", "=", "*-"));
        other(a, rows("**kern", "4e", "=1", "2f", "=", "*-"));
        // Alone, where the other one has no STRANDS, or none any more.
        due(a, rows("**kern", "4e", "=1", "4f", "*", "*-", "!!x"),
                "**kern|**kern", "4c|4e", "=1|=1", "4d|4f", "*|*", "*|*-", "!!x", "=", "*-");
        due(rows("**kern", "=", "4c", "=1", "*-"), rows("!!x"), "!!x", "**kern", "=", "4c", "=1", "*-");
        due(rows("!!x"), rows("!!y", "**kern", "=", "4c", "=1", "*-"), "!!x", "!!y", "**kern", "=", "4c", "=1", "*-");
        due(rows("**kern", "4c", "*-"), rows("**kern", "4c", "4d", "=1", "*-"), "**kern|**kern", "4c|4c", "*-|*", "4d", "=1", "*-");
    }

    private static void withoutRecords() {
        due(rows(), rows());
        due(rows("!!a"), rows(), "!!a");
        due(rows("!!a", "!!b"), rows("!!c"), "!!a", "!!b", "!!c");
        due(rows("!!a", "**a", "!!b", "*-", "!!c"), rows("!!d", "!!e"), "!!a", "!!d", "!!e", "**a", "!!b", "*-", "!!c");
    }

    private static void misfits() {
        other(rows("**kern", "4c", "*-"), rows("**text", "x", "*-"));
        other(rows("**text", "x", "*-"), rows("**text", "x", "*-"));
        other(rows("**kern", "x", "*-"), rows("!!"));
    }

    private static void tooManyStrands() {
        String six = "**a" + Trial.repeat("|**a", 5);
        String end = "*-" + Trial.repeat("|*-", 5);
        T.due("twelve", put(rows(six, end), rows(six, end)), 2);
        T.due("most", T.x.told(2, 5), 12);
        T.due("thirteen", put(rows(six, end), rows("**a|" + six, "*-|" + end)), ROOM);
        T.noIndex("nothing was made", () -> T.x.told(2, 0));
        String more = Trial.repeat("|*", 5);
        T.due("one more by *^ when the left ones have ended", put(rows(six, end), rows(six, "*^" + more, "*-|" + end)), 2);
        T.due("one more by *^ ahead of their end", put(rows(six, "=" + Trial.repeat("|=", 5), end),
                rows(six, "*^" + more, "=" + Trial.repeat("|=", 6), "*-|" + end)), ROOM);
        T.due("one more by *^ at the left", put(rows(six, "*^" + more, "*-|" + end), rows(six, end)), ROOM);
        T.due("one more by *+ at the left", put(rows(six, "*+" + more, "*|**b" + more, "*-|" + end), rows(six, end)), ROOM);
        String five = "**a" + Trial.repeat("|**a", 4);
        T.due("two more, though two go", put(rows(six, "*^|*^|*v|*v|*|*", "*-" + Trial.repeat("|*-", 6)), rows(five, "*-" + Trial.repeat("|*-", 4))), ROOM);
        T.due("one more", put(rows(six, "*^" + more, "*-|" + end), rows(five, "*-" + Trial.repeat("|*-", 4))), 2);
    }

    private static void tooManyRows() {
        String[] hundred = Trial.repeat("!!,", 100).split(",");
        T.due("200 rows", put(hundred, hundred), 2);
        T.due("rows", T.x.told(2, 0), 200);
        T.due("201 rows", put(hundred, Trial.repeat("!!,", 101).split(",")), ROOM);
    }

    private static void tooManyBytes() {
        String half = Trial.repeat("x", 1497);
        T.due("3000 bytes", put(rows("!!" + half), rows("!!" + half)), 2);
        T.due("bytes", T.x.told(2, 6), 3000);
        T.due("3001 bytes", put(rows("!!" + half), rows("!!x" + half)), ROOM);
        T.due("far more bytes", put(rows("!!x" + half + half), rows("!!x" + half + half)), ROOM);
        T.due("tables that were there stay", T.x.told(0, 6), 2998);
    }

    private static void full() {
        T.begin();
        T.read(rows("**kern", "4c", "=1", "*-"));
        T.read(rows("**kern", "4c", "=2", "*-"));
        T.read(rows("!!" + Trial.repeat("x", 2000)));
        for (int t = 3; t < 8; t++) {
            T.read(rows("!!"));
        }
        T.due("full", T.x.assemble(0, 0), FULL);
        T.due("other ahead of full", T.x.assemble(0, 1), OTHER);
        T.due("full ahead of room", T.x.assemble(2, 2), FULL);
        T.x.drop(6);
        T.due("room", T.x.assemble(2, 2), ROOM);
        T.due("the least that is free", T.x.assemble(0, 0), 6);
        T.dueText("with itself", T.written(6), Trial.rows("**kern|**kern", "4c|4c", "=1|=1", "*-|*", "*-"));
    }

    /** That BARS do not meet is told ahead of ROOM, wherever they stand. */
    private static void otherAheadOfRoom() {
        String seven = "**kern" + Trial.repeat("|**kern", 6);
        String end = "*-" + Trial.repeat("|*-", 6);
        String bars = "=1" + Trial.repeat("|=1", 6);
        T.due("room", put(rows(seven, bars, end), rows(seven, bars, end)), ROOM);
        T.due("other", put(rows(seven, bars, end), rows(seven, bars.replace('1', '2'), end)), OTHER);
    }

    private static void wrongTables() {
        T.begin();
        T.read(rows("!!"));
        T.noIndex("b", () -> T.x.assemble(0, 1));
        T.noIndex("a", () -> T.x.assemble(1, 0));
        T.noIndex("both", () -> T.x.assemble(-1, 8));
    }

    private static void reckonedAnew() {
        put(rows("**text|**kern", "x|4c", "y|4d", "*-|*-"), rows("**kern|**dyn", "2e|p", "*-|*-"));
        T.due("kinds", T.x.told(2, 4), 3);
        T.due("kind", T.x.strand(2, 1, 2, 0), 1);
        T.due("kind of the last", T.x.strand(2, 1, 3, 0), 2);
        T.due("number", T.x.strand(2, 1, 3, 1), 3);
        T.due("held", T.x.strand(2, 2, 2, 2), 1);
        T.due("fits", T.x.walk(2), SpineTables.NONE);
        T.due("time", T.x.time(2, 2, 1), 4);
    }

    public static void main(String[] args) {
        inTime();
        remarksAndOthers();
        strandsComeAndGo();
        bars();
        withoutRecords();
        misfits();
        tooManyStrands();
        tooManyRows();
        tooManyBytes();
        full();
        otherAheadOfRoom();
        wrongTables();
        reckonedAnew();
        T.end("AssembleTest");
    }
}
