/** Promises 12 to 16: walk, misfit, time, length, bars. */
public final class WalkTest {
    private static final Trial T = new Trial();
    private static final int NONE = SpineTables.NONE;

    private static void misfit(int row, int which, String... rows) {
        T.begin();
        String told = String.join(" / ", rows);
        T.due("read of " + told, T.read(rows), 0);
        T.due("walk of " + told, T.x.walk(0), row);
        T.due("misfit of " + told, T.x.misfit(0), which);
        if (which != 0) {
            T.noState("time of " + told, () -> T.x.time(0, 0, 0));
            T.noState("bars of " + told, () -> T.x.bars(0));
        }
    }

    private static void fits(String... rows) {
        misfit(NONE, 0, rows);
    }

    private static void dueTime(int r, int above, int below) {
        T.due("time above at " + r, T.x.time(0, r, 0), above);
        T.due("time below at " + r, T.x.time(0, r, 1), below);
    }

    private static void misfits() {
        misfit(1, 1, "**kern", "c", "*-");
        misfit(1, 1, "**kern|**recip", "4c|x", "*-|*-");
        misfit(2, 2, "**recip|**recip", "2|4", "4|4", "*-|*-");
        misfit(1, 3, "**recip", ".", "*-");
        misfit(2, 3, "**recip|**recip", "4|4", "4|.", "*-|*-");
        misfit(1, 4, "**text", ".", "*-");
        misfit(2, 4, "**text|**kern", "*|*-", "la", "*-");
        misfit(3, 6, "**kern", "*^", "4c|8d", "*v|*v", "*-");
        misfit(2, 7, "**kern|**kern", "4c|2d", "*|*-", "4c", "*-");
        // From the left, and what has no LENGTH ahead of a wrong END.
        misfit(2, 2, "**recip|**recip", "2|4", "4|x", "*-|*-");
        misfit(2, 1, "**recip|**recip", "2|4", "x|.", "*-|*-");
        misfit(1, 3, "**recip|**recip", ".|x", "*-|*-");
        misfit(2, 7, "**kern|**kern|**kern", "2c|4d|2e", "*-|*v|*v", "*-");
        misfit(2, 6, "**kern|**kern|**kern", "4c|2d|2e", "*v|*v|*-", "*-");
        misfit(1, 1, "**recip|**recip", "x|.", "!|!", "*-|*-");
        fits("**text", "*", "!", "=", "*-");
        fits("**text|**kern", ".|4c", "x|4c", "*-|*-");
        // NOW goes by the STRANDS that there are right behind the ACTS.
        fits("**recip|**recip", "2|4", "*|*", "*|*-", "*-");
        fits();
        fits("!!x");
    }

    private static void tooGreat() {
        misfit(4, 5, "**recip", "997", "991", "983", "977", "*-");
        misfit(3, 5, "**recip", "997", "991", "127...", "*-");
        misfit(3, 5, "**kern", "997c", "991c", "127...c", "*-");
        misfit(NONE, 0, "**recip", "997", "991", "983", "*-");
        T.due("just below 10^9", T.x.time(0, 4, 1), 971230541);
        misfit(NONE, 0, "**recip", "997%328", "991%782", "1%999", "1%12", "*-");
        dueTime(5, 999999999, 988027);
        misfit(4, 5, "**recip", "997%494", "991%617", "1%999", "1%12", "*-");
        // It comes behind all other MISFITS of its RECORD.
        misfit(4, 3, "**recip|**recip", "997|997", "991|991", "983|983", "977|.", "*-|*-");
        misfit(4, 1, "**recip|**recip", "997|997", "991|991", "983|983", "977|x", "*-|*-");
    }

    private static void times() {
        T.begin();
        T.read(new String[] {"!!x", "**kern|**recip|**text", "4c|8.|a", ".|16|.", "=|=|=", "2.d|0|b", "4d|.|.", "1e|.|.", "*-|*-|*", "!!y", "*-"});
        T.due("walk", T.x.walk(0), NONE);
        int[][] due = {{0, 1}, {0, 1}, {0, 1}, {3, 16}, {1, 4}, {1, 4}, {1, 1}, {5, 4}, {9, 4}, {9, 4}, {9, 4}, {9, 4}};
        for (int r = 0; r < due.length; r++) {
            dueTime(r, due[r][0], due[r][1]);
        }
        T.noIndex("time behind all and one", () -> T.x.time(0, 12, 0));
        T.noIndex("time of -1", () -> T.x.time(0, -1, 0));
        T.noIndex("time of no table", () -> T.x.time(1, 0, 0));
        T.noIndex("time row ahead of part", () -> T.x.time(0, 12, 2));
        T.noArgument("time part 2", () -> T.x.time(0, 0, 2));
        T.noArgument("time part -1", () -> T.x.time(0, 0, -1));
    }

    private static void mostRows() {
        T.begin();
        T.due("read", T.read("**recip\n" + Trial.repeat("4\n", 198) + "*-\n"), 0);
        dueTime(199, 99, 2);
        dueTime(200, 99, 2);
        T.noIndex("one more", () -> T.x.time(0, 201, 0));
    }

    private static void newStrands() {
        // A new one begins where NOW was ahead of the ROW, and holds NOW there.
        T.begin();
        T.read(new String[] {"**recip|**recip", "4|2", "*+|*", "!!x", "*|**kern|*", "4|4c|.", "*-|*|*-", "1d", "*-"});
        T.due("walk", T.x.walk(0), NONE);
        dueTime(2, 1, 4);
        dueTime(3, 1, 4);
        dueTime(5, 1, 4);
        dueTime(6, 1, 2);
        dueTime(7, 1, 2);
        dueTime(9, 3, 2);
        // NOW moves on when the one that held it ends.
        misfit(NONE, 0, "**recip|**recip|**text", "4|2|x", "*-|*|*", "2|y", "*|*+", "*|*|**recip", "4|.|4", "4|.|4", "*-|*-|*-");
        dueTime(3, 1, 2);
        // Without RHYTHM NOW stays.
        misfit(NONE, 0, "**recip|**text", "4|x", "*-|*", "!", "*+", "*|**kern", "y|4c", "*-|*-");
        dueTime(4, 1, 4);
        dueTime(6, 1, 4);
        dueTime(8, 1, 2);
    }

    private static void splitsAndJoins() {
        misfit(NONE, 0, "**kern", "4c", "*^", "4c|2d", "4e|.", "*x|*x", "2c|4d", ".|4e", "*v|*v", "1c", "*-");
        dueTime(9, 5, 4);
        misfit(3, 2, "**kern|**kern", "4c|2d", "*x|*x", "4c|.", "*-|*-");
        misfit(3, 3, "**kern|**kern", "4c|2d", "*x|*x", ".|.", "*-|*-");
        misfit(NONE, 0, "**text|**text|**kern", "a|.|4c", "*v|*v|*", "*-|*-");
        misfit(3, 2, "**kern|**kern|**text", "4c|2d|x", "*|*^|*", "4e|.|4g|.", "*-|*-|*-|*-");
    }

    private static void length(String kind, String token, int above, int below) {
        T.begin();
        T.read(Trial.rows("**" + kind) + token + "\n*-\n");
        if (above == 0) {
            T.noState(kind + " [" + token + "]", () -> T.x.length(0, 1, 0, 0));
            T.noState(kind + " [" + token + "]", () -> T.x.length(0, 1, 0, 1));
        } else {
            T.due(kind + " [" + token + "] above", T.x.length(0, 1, 0, 0), above);
            T.due(kind + " [" + token + "] below", T.x.length(0, 1, 0, 1), below);
        }
    }

    private static void reciprocals() {
        String[] right = {"0", "00", "000", "1", "4", "999", "3%2", "8%3", "999%998", "4%100", "4.", "4..", "4...", "0.", "000...", "6%4.", "4r", "0r", "4%3..r"};
        int[][] due = {{2, 1}, {4, 1}, {8, 1}, {1, 1}, {1, 4}, {1, 999}, {2, 3}, {3, 8}, {998, 999}, {25, 1}, {3, 8}, {7, 16}, {15, 32}, {3, 1}, {15, 1}, {1, 1}, {1, 4}, {2, 1}, {21, 16}};
        for (int n = 0; n < right.length; n++) {
            length("recip", right[n], due[n][0], due[n][1]);
            String sound = right[n].endsWith("r") ? right[n] : right[n] + "c";
            length("kern", sound, due[n][0], due[n][1]);
            length("text", right[n], 0, 0);
        }
        for (String wrong : new String[] {".", "..", "0000", "01", "1000", "4%", "4%0", "0%1", "00%3", "4%1000", "4%03", "%4", "4....", "4rr", "r", "4.r.", "4 ", " 4", "4 4", "-4", "4c", "4;", "(4"}) {
            length("recip", wrong, 0, 0);
        }
    }

    private static void sounds() {
        for (String right : new String[] {"4c", "4g", "4A", "4G", "4cccc", "4CCCC", "4c#", "4c##", "4c-", "4c--", "4cn", "4ccn", "4r", "4r;", "([{4c", "((4c))", "4c)]}_;", "4c#_", "(4r)", "4c 4d", "[4c 4%1d] 4r", "4a 8%2b"}) {
            length("kern", right, 1, 4);
        }
        for (String wrong : new String[] {"4", "c", "4h", "4H", "4z", "4ccccc", "4cC", "4cd", "4c###", "4c---", "4c#-", "4cnn", "4c#n", "4rr", "4r#", "4rc", "4cr", "4 c", "c4", ")4c", "4(c", "4c(", "4c 8d", "4c  4d", " 4c", "4c ", "4c,4d", "4c4d", "4c.", "4....c", "4c;#", "4%c", "0000c", "4c 4", "4c ."}) {
            length("kern", wrong, 0, 0);
        }
        length("kern", "8.c 16%3e", 3, 16);
    }

    private static void wrongLengths() {
        T.begin();
        T.read(new String[] {"!!x", "**kern|**text", "4c|4c", "=|=", "!|!", ".|x", "*-|*-"});
        T.due("the table does not fit", T.x.misfit(0), 3);
        T.due("length in spite of it", T.x.length(0, 2, 0, 1), 4);
        T.noState("length without rhythm", () -> T.x.length(0, 2, 1, 0));
        T.noState("length of acts", () -> T.x.length(0, 1, 0, 0));
        T.noState("length of bars", () -> T.x.length(0, 3, 0, 0));
        T.noState("length of notes", () -> T.x.length(0, 4, 0, 0));
        T.noState("length of a point", () -> T.x.length(0, 5, 0, 0));
        T.noArgument("part ahead of the state", () -> T.x.length(0, 5, 0, 2));
        T.noArgument("part -1", () -> T.x.length(0, 2, 0, -1));
        T.noIndex("length of a remark", () -> T.x.length(0, 0, 0, 0));
        T.noIndex("strand ahead of part", () -> T.x.length(0, 2, 2, 2));
        T.noIndex("strand -1", () -> T.x.length(0, 2, -1, 0));
        T.noIndex("row 7", () -> T.x.length(0, 7, 0, 0));
        T.noIndex("row -1", () -> T.x.length(0, -1, 0, 0));
        T.noIndex("no table", () -> T.x.length(3, 0, 0, 0));
    }

    private static void bars(int due, String... rows) {
        fits(rows);
        T.due("bars of " + String.join(" / ", rows), T.x.bars(0), due);
    }

    private static void bars() {
        bars(NONE, "**kern", "4c", "=", "2c", "=", "4c", "=", "*-");
        bars(NONE, "**kern", "*M4/4", "4c", "=", "1c", "=", "2c", "*-");
        bars(NONE, "**kern", "*M6/8", "=", "2.c", "=", "*M2/8", "4c", "2d", "=", "4c", "=", "*-");
        bars(5, "**kern", "*M3/4", "=", "2.c", "=", "=", "*-");
        bars(5, "**kern", "=", "4c", "*M3/4", "=", "=", "*-");
        // THE METER is that at the BARS before: later ones count from the next BARS on.
        bars(NONE, "**kern", "=", "*M3/4", "4c", "=", "2.c", "=", "*-");
        bars(7, "**kern", "=", "*M3/4", "4c", "=", "*M1/4", "4c", "=", "4c", "=", "*-");
        // Of one RECORD the last one, of any STRAND; what is no METER changes nothing.
        bars(NONE, "**kern|**text", "*M3/4|*M1/4", "=|=", "4c|.", "=|=", "*-|*-");
        for (String other : new String[] {"*M0/4", "*M4/0", "*M100/4", "*M4/100", "*M4", "*M/4", "*M4/", "*M 4/4", "*m4/4", "*M4/4x", "*M04/4"}) {
            bars(NONE, "**kern|**text", "*M1/4|" + other, "=|=", "4c|.", "=|=", "*-|*-");
            bars(NONE, "**kern", other, "=", "4c", "=", "*-");
        }
        bars(NONE, "**kern", "*M99/99", "=", "1c", "=", "*-");
        bars(4, "**kern", "*M98/99", "=", "1c", "=", "*-");
        T.noIndex("bars of no table", () -> T.x.bars(1));
        T.noIndex("walk of no table", () -> T.x.walk(-1));
        T.noIndex("misfit of no table", () -> T.x.misfit(8));
    }

    /** Differences whose parts, not cut ahead, would not go into 63 bits. */
    private static void fineBars() {
        String[] rows = {"**recip", "*M1/97", "997", "991%990", "=", "97", "=", "97%2", "=", "*-"};
        bars(8, rows);
        rows[7] = "97";
        bars(NONE, rows);
        bars(NONE, "**recip", "*M4/4", "997", "991", "983", "=", "1", "=", "*-");
        bars(7, "**recip", "*M4/4", "997", "991", "983", "=", "983%982", "=", "*-");
        bars(NONE, "**recip", "*M4/4", "997", "991", "983", "=", "983%982", "983", "=", "*-");
    }

    public static void main(String[] args) {
        misfits();
        tooGreat();
        times();
        mostRows();
        newStrands();
        splitsAndJoins();
        reciprocals();
        sounds();
        wrongLengths();
        bars();
        fineBars();
        T.end("WalkTest");
    }
}
