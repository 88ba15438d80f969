/** ASSEMBLE and promise 18, sentence by sentence. */
public final class AssembleEdgeTest {
    private static final Trial T = new Trial();
    private static final int NONE = SpineTables.NONE, FULL = SpineTables.FULL;
    private static final int OTHER = SpineTables.OTHER, ROOM = SpineTables.ROOM;

    private static String[] rows(String... rows) {
        return rows;
    }

    private static int put(String[] a, String[] b) {
        T.begin();
        T.due("read of a", T.read(a), 0);
        T.due("read of b", T.read(b), 1);
        return T.x.assemble(0, 1);
    }

    private static void due(String[] a, String[] b, String... due) {
        T.due("assemble of " + String.join(" / ", a) + " and " + String.join(" / ", b), put(a, b), 2);
        T.dueText("assembled", T.written(2), Trial.rows(due));
        T.due("its text is right", T.read(T.written(2)), 3);
        T.due("and is the same", T.x.same(2, 3), true);
    }

    private static void refused(int answer, String[] a, String[] b) {
        T.due("assemble of " + String.join(" / ", a) + " and " + String.join(" / ", b), put(a, b), answer);
        T.noIndex("no table came", () -> T.x.told(2, 0));
        T.dueText("a stays", T.written(0), Trial.rows(a));
        T.dueText("b stays", T.written(1), Trial.rows(b));
    }

    /** First all REMARKS of a ahead of its first RECORD, then those of b, then both first RECORDS as one. */
    private static void ahead() {
        due(rows("!!1", "!!2", "**a|**b", "*-|*-"), rows("!!3", "!!4", "**c", "*-"),
                "!!1", "!!2", "!!3", "!!4", "**a|**b|**c", "*-|*-|*", "*-");
        due(rows("**a", "*-"), rows("!!3", "**c", "*-"), "!!3", "**a|**c", "*-|*", "*-");
        due(rows("!!1", "**a", "*-"), rows("**c", "*-"), "!!1", "**a|**c", "*-|*", "*-");
    }

    /** The next ROW of the one whose next ROW has the lesser TIME is put. */
    private static void lesserTime() {
        due(rows("**recip", "4", "4", "2", "*-"), rows("**recip", "2", "4", "4", "*-"),
                "**recip|**recip", "4|2", "4|.", "2|4", ".|4", "*-|*", "*-");
        due(rows("**recip", "3", "*P", "!p", "!!1", "3", "3", "*-"), rows("**recip", "2", "*Q", "!q", "!!2", "2", "*-"),
                "**recip|**recip", "3|2", "*P|*", "!p|!", "!!1", "3|.", "*|*Q", "!|!q", "!!2", ".|2", "3|.", "*-|*", "*-");
        // TIMES that differ by very little.
        due(rows("**recip", "997", "1", "*-"), rows("**recip", "998", "1", "*-"),
                "**recip|**recip", "997|998", ".|1", "1|.", "*|*-", "*-");
    }

    /** ... (of the one that has some, when the other one has none). */
    private static void oneHasNone() {
        due(rows("**recip", "4", "*-"), rows("**recip", "2", "!!", "=", "!q", "4", "*-", "!!"),
                "**recip|**recip", "4|2", "*-|*", "!!", "=", "!q", "4", "*-", "!!");
        due(rows("**recip", "2", "!!", "=", "!q", "4", "*-", "!!"), rows("**recip", "4", "*-"),
                "**recip|**recip", "2|4", "*|*-", "!!", "=", "!q", "4", "*-", "!!");
    }

    /**
     * Of one TIME: the next one of a, if it is neither BARS nor DATA; else that of b, if it is neither; else both as
     * one ROW, of one SORT. Behind it the same is asked of the *- of both.
     */
    private static void ofOneTime() {
        String[] left = {"!!a", "!a", "*A", "=", "4"};
        String[] right = {"!!b", "!b", "*B", "=", "4"};
        String[] leftAlone = {"!!a", "!a|!", "*A|*"};
        String[] rightAlone = {"!!b", "!|!b", "*|*B"};
        for (int m = 0; m < 5; m++) {
            for (int n = 0; n < 5; n++) {
                String[] a = {"**recip", left[m], "*-"};
                String[] b = {"**recip", right[n], "*-"};
                if (m < 3) {
                    due(a, b, "**recip|**recip", leftAlone[m], "*-|*", right[n], "*-");
                } else if (n < 3) {
                    due(a, b, "**recip|**recip", rightAlone[n], "*|*-", left[m], "*-");
                } else if (m == n) {
                    due(a, b, "**recip|**recip", left[m] + "|" + right[n], "*-|*", "*-");
                } else {
                    refused(OTHER, a, b);
                }
            }
        }
    }

    /** BARS have like bytes in their first TOKENS; the others are free. */
    private static void likeBars() {
        due(rows("**a|**a", "=1|=2", "*-|*-"), rows("**b|**b", "=1|=3", "*-|*-"), "**a|**a|**b|**b", "=1|=2|=1|=3", "*-|*-|*|*", "*-|*-");
        for (String bar : new String[] {"=", "=2", "=11", "=1 ", "==1"}) {
            refused(OTHER, rows("**a", "=1", "*-"), rows("**b", bar, "*-"));
            refused(OTHER, rows("**b", bar, "*-"), rows("**a", "=1", "*-"));
            refused(OTHER, rows("**a|**a", "=1|" + bar, "*-|*-"), rows("**b|**b", bar + "|=1", "*-|*-"));
            due(rows("**a", bar, "*-"), rows("**b", bar, "*-"), "**a|**b", bar + "|" + bar, "*-|*", "*-");
        }
        String most = "=" + Trial.repeat("1", 39);
        due(rows("**a", most, "*-"), rows("**b", most, "*-"), "**a|**b", most + "|" + most, "*-|*", "*-");
        refused(OTHER, rows("**a", most, "*-"), rows("**b", most.substring(0, 39) + "2", "*-"));
    }

    /** A ROW put alone gets *, ! or . for each STRAND of the other, behind its TOKENS (of a) or ahead of them (of b). */
    private static void alone() {
        due(rows("**recip|**text", "2|x", "*^|*", "!a|!b|!c", "4|8|y", ".|8|.", "*-|*-|*-"),
                rows("**text|**kern|**text", "p|4c|q", "*|*^|*", "!d|!e|!f|!g", "r|4d|8e|s", ".|.|8f|.", "*|*v|*v|*", "t|2c|u", "*-|*-|*-"),
                "**recip|**text|**text|**kern|**text", "2|x|p|4c|q", "*|*|*|*^|*", "!|!|!d|!e|!f|!g", ".|.|r|4d|8e|s", ".|.|.|.|8f|.",
                "*^|*|*|*|*|*", "!a|!b|!c|!|!|!|!", "*|*|*|*|*v|*v|*",
                "4|8|y|t|2c|u", ".|8|.|.|.|.", "*-|*-|*-|*|*|*", "*-|*-|*-");
        due(rows("**recip", "*^", "*v|*v", "4", "*-"), rows("**recip|**recip", "*v|*v", "*^", "4|4", "*-|*-"),
                "**recip|**recip|**recip", "*^|*|*", "*v|*v|*|*", "*|*v|*v", "*|*^", "4|4|4", "*-|*|*", "*-|*-");
    }

    /** BARS can not be put alone while the other one has STRANDS. */
    private static void barsAlone() {
        String[] a = {"**recip", "4", "=1", "4", "*-"};
        refused(OTHER, a, rows("**recip", "2", "*-"));
        refused(OTHER, rows("**recip", "2", "*-"), a);
        refused(OTHER, a, rows("**recip", "4", "4", "*-"));
        refused(OTHER, a, rows("**recip|**text", "4|x", "*-|*", "*", "=2", "*-"));
        due(a, rows("**recip|**text", "4|x", "*-|*", "=1", "*-"), "**recip|**recip|**text", "4|4|x", "*|*-|*", "=1|=1", "*|*-", "4", "*-");
        due(a, rows("**recip", "4", "*-"), "**recip|**recip", "4|4", "*|*-", "=1", "4", "*-");
        due(a, rows("**recip", "*-"), "**recip|**recip", "*|*-", "4", "=1", "4", "*-");
        due(a, rows("!!"), "!!", "**recip", "4", "=1", "4", "*-");
        due(rows(), a, "**recip", "4", "=1", "4", "*-");
        due(rows("**recip", "*-", "!!"), a, "**recip|**recip", "*-|*", "!!", "4", "=1", "4", "*-");
        // REMARKS of the other one that are left do not hinder them.
        due(a, rows("**recip", "4", "*-", "!!x"), "**recip|**recip", "4|4", "*|*-", "!!x", "=1", "4", "*-");
    }

    /** Behind a ROW with *+ the ROWS of that table up to its next RECORD are put at once. */
    private static void atOnce() {
        // NOW of a has moved on to 1/2 when its new one is told; b still has ROWS at 1/4.
        due(rows("**recip|**recip", "4|2", "*-|*+", "!!1", "!!2", "*|**text", "!!3", "4|x", "*-|*-"),
                rows("**recip", "4", "!!4", "2", "*-"),
                "**recip|**recip|**recip", "4|2|4", "*-|*+|*", "!!1", "!!2", "*|**text|*", "!!4", ".|.|2", "!!3", "4|x|.", "*-|*-|*", "*-");
        due(rows("**recip", "4", "!!4", "2", "*-"),
                rows("**recip|**recip", "4|2", "*-|*+", "!!1", "!!2", "*|**text", "!!3", "4|x", "*-|*-"),
                "**recip|**recip|**recip", "4|4|2", "!!4", "*|*-|*+", "!!1", "!!2", "*|*|**text", "2|.|.", "!!3", ".|4|x", "*-|*|*", "*-|*-");
        // At the right the ROWS of a wait, though a is asked first elsewhere.
        due(rows("**recip", "4", "*P", "!p", "*-"), rows("**recip", "*+", "!!1", "*|**recip", "4|4", "*-|*-"),
                "**recip|**recip", "*|*+", "!!1", "*|*|**recip", "4|4|4", "*P|*|*", "!p|!|!", "*-|*|*", "*-|*-");
        due(rows("**a", "*P", "*-"), rows("**b", "*+", "*|**c", "*-|*-"), "**a|**b", "*P|*", "*-|*", "*+", "*|**c", "*-|*-");
        // Both have a *+ at one TIME: one behind the other.
        due(rows("**recip", "*+", "*|**a", "4|x", "*-|*-"), rows("**recip", "*+", "*|**b", "4|y", "*-|*-"),
                "**recip|**recip", "*+|*", "*|**a|*", "*|*|*+", "*|*|*|**b", "4|x|4|y", "*-|*-|*|*", "*-|*-");
    }

    /** Of one without RECORDS all ROWS are REMARKS ahead. */
    private static void withoutRecords() {
        due(rows(), rows());
        due(rows("!!1"), rows("!!2"), "!!1", "!!2");
        due(rows("!!1", "**a", "!!2", "*-", "!!3"), rows("!!4", "!!5"), "!!1", "!!4", "!!5", "**a", "!!2", "*-", "!!3");
        due(rows("!!4", "!!5"), rows("!!1", "**a", "!!2", "*-", "!!3"), "!!4", "!!5", "!!1", "**a", "!!2", "*-", "!!3");
    }

    /** OTHER: one does not FIT. */
    private static void misfits() {
        String[] fits = {"**recip", "4", "*-"};
        String[][] wrongs = {{"**recip", "x", "*-"}, {"**recip|**recip", "2|4", "4|4", "*-|*-"}, {"**recip", ".", "*-"}, {"**a", "x", "*-"},
            {"**recip", "997", "991", "127...", "*-"}, {"**recip|**recip", "2|4", "*v|*v", "*-"}, {"**recip|**recip", "2|4", "*-|*-"}};
        for (int n = 0; n < wrongs.length; n++) {
            refused(OTHER, fits, wrongs[n]);
            T.due("misfit", T.x.misfit(1), n + 1);
            refused(OTHER, wrongs[n], fits);
            refused(OTHER, wrongs[n], rows());
            refused(OTHER, wrongs[n], wrongs[n]);
        }
    }

    /** ROOM: written it has more than 3000 bytes. */
    private static void bytes() {
        String[] a = {"!!" + Trial.repeat("x", 1500), "**a", "*-"};
        int rest = 3000 - 1503 - "**a\t**a\n*-\t*\n*-\n".length();
        T.due("3000 bytes", put(a, rows("!!" + Trial.repeat("x", rest - 3), "**a", "*-")), 2);
        T.due("are written", T.x.write(2), 3000);
        T.due("the last one", T.x.out(2999), 10);
        T.due("no more", T.x.out(3000), NONE);
        refused(ROOM, a, rows("!!" + Trial.repeat("x", rest - 2), "**a", "*-"));
        refused(ROOM, a, a);
        // A table that lacked its last 10 is written with 3001 bytes, and is too much beside nothing.
        T.begin();
        T.due("read", T.read("!!" + Trial.repeat("x", 2998)), 0);
        T.due("bytes", T.x.told(0, 6), 3001);
        T.begin();
        T.read("!!" + Trial.repeat("x", 2998));
        T.due("read", T.x.read(), 1);
        T.due("3001 bytes", T.x.assemble(0, 1), ROOM);
        T.due("3001 bytes, changed about", T.x.assemble(1, 0), ROOM);
        T.due("nothing beside nothing", T.x.assemble(1, 1), 2);
        T.begin();
        T.read("!!" + Trial.repeat("x", 2997));
        T.x.read();
        T.due("3000 bytes beside nothing", T.x.assemble(0, 1), 2);
        T.due("the same", T.x.same(0, 2), true);
    }

    /** ROOM: it has more ROWS than a text may have. */
    private static void tooManyRows() {
        String[] a = ("**a," + Trial.repeat("!!,", 98) + "*-").split(",");
        T.due("200 rows", put(a, ("**a," + Trial.repeat("!!,", 99) + "*-").split(",")), 2);
        T.due("rows", T.x.told(2, 0), 200);
        refused(ROOM, a, ("**a," + Trial.repeat("!!,", 100) + "*-").split(","));
        T.due("first rows are one", put(a, a), 2);
        T.due("rows", T.x.told(2, 0), 199);
        T.begin();
        T.read(Trial.repeat("!!\n", 200));
        T.read("");
        T.due("200 rows beside none", T.x.assemble(0, 1), 2);
        T.due("rows", T.x.told(2, 0), 200);
        T.read("!!");
        T.due("201 rows", T.x.assemble(0, 3), ROOM);
        T.due("201 rows, changed about", T.x.assemble(3, 0), ROOM);
    }

    /** ROOM: it has more STRANDS than a text may have: in the first RECORD. */
    private static void tooManyAtFirst() {
        for (int n = 1; n <= 12; n++) {
            String[] a = {Trial.all(n, "**a"), Trial.all(n, "*-")};
            int most = 12 - n;
            if (most > 0) {
                T.due(n + " and " + most, put(a, rows(Trial.all(most, "**b"), Trial.all(most, "*-"))), 2);
                T.due("tokens", T.x.told(2, 5), 12);
            }
            if (n > 1) {
                refused(ROOM, a, rows(Trial.all(most + 1, "**b"), Trial.all(most + 1, "*-")));
            }
        }
        refused(ROOM, rows(Trial.all(12, "**a"), Trial.all(12, "*-")), rows(Trial.all(12, "**a"), Trial.all(12, "*-")));
    }

    /** ROOM: by *^ or *+, as FAULT 7 tells. */
    private static void tooManyLater() {
        for (String act : new String[] {"*^", "*+"}) {
            String next = act.equals("*^") ? "*" : "**a";
            String[] five = {Trial.all(5, "**a"), "*|*|*|*|*", "=|=|=|=|=", Trial.all(5, "*-")};
            String[] six = {Trial.all(6, "**a"), "*|*|*|*|*|*", "=|=|=|=|=|=", Trial.all(6, "*-")};
            String[] grows = {Trial.all(6, "**a"), Trial.but(6, 5, act), Trial.but(7, 6, next), Trial.all(7, "="), Trial.all(7, "*-")};
            T.due(act + " to 12 at the left", put(grows, five), 2);
            T.due("tokens", T.x.told(2, 5), 12);
            T.due(act + " to 12 at the right", put(five, grows), 2);
            T.due("tokens", T.x.told(2, 5), 12);
            refused(ROOM, grows, six);
            refused(ROOM, six, grows);
            // What ends in the same RECORD makes no room; what has ended ahead of it does.
            String[] ends = {Trial.all(6, "**a"), Trial.but(6, 0, "*-", act), Trial.but(6, 1, next), Trial.all(6, "="), Trial.all(6, "*-")};
            refused(ROOM, ends, six);
            refused(ROOM, six, ends);
            String[] ended = {Trial.all(6, "**a"), Trial.but(6, 0, "*-"), Trial.but(5, 0, act), Trial.but(6, 1, next), Trial.all(6, "="), Trial.all(6, "*-")};
            T.due(act + " when one has ended", put(ended, six), 2);
            T.due(act + " when one has ended at the right", put(six, ended), 2);
        }
        String[] two = {Trial.all(6, "**a"), "*^|*^|*|*|*|*", Trial.all(8, "="), Trial.all(8, "*-")};
        refused(ROOM, two, rows(Trial.all(5, "**a"), Trial.all(5, "="), Trial.all(5, "*-")));
        T.due("two more to 12", put(two, rows(Trial.all(4, "**a"), Trial.all(4, "="), Trial.all(4, "*-"))), 2);
        // When the other one has ended there is room for twelve.
        T.due("all alone", put(rows(Trial.all(6, "**a"), Trial.all(6, "*-")), rows(Trial.all(6, "**a"), Trial.all(6, "*^"), Trial.all(12, "*-"))), 2);
        T.due("tokens", T.x.told(2, 5), 12);
    }

    /** FULL behind OTHER, and ahead of ROOM; else the least number that is free. */
    private static void order() {
        T.right("**recip", "4", "=1", "*-");
        T.read("**recip\n4\n=2\n*-");
        T.read("**recip\nx\n*-");
        T.read("!!" + Trial.repeat("x", 1499));
        for (int t = 4; t < 7; t++) {
            T.due("read", T.x.read(), t);
        }
        T.due("room", T.x.assemble(3, 3), ROOM);
        T.due("the last that is free", T.x.assemble(0, 0), 7);
        T.due("full", T.x.assemble(0, 0), FULL);
        T.due("bars ahead of full", T.x.assemble(0, 1), OTHER);
        T.due("a misfit ahead of full", T.x.assemble(0, 2), OTHER);
        T.due("full ahead of room", T.x.assemble(3, 3), FULL);
        T.x.drop(6);
        T.x.drop(4);
        T.due("a misfit ahead of room", T.x.assemble(2, 3), OTHER);
        T.due("room", T.x.assemble(3, 3), ROOM);
        T.due("the least", T.x.assemble(7, 0), 4);
        T.due("strands of it", T.x.told(4, 5), 3);
        T.due("the next", T.x.assemble(4, 4), 6);
        T.due("full again", T.x.assemble(5, 5), FULL);
    }

    /** OTHER is told ahead of ROOM also where BARS do not meet behind what is too much. */
    private static void otherAheadOfRoom() {
        String longRemark = "!!" + Trial.repeat("x", 1500);
        refused(OTHER, rows(longRemark, "**a", "=1", "*-"), rows(longRemark, "**a", "=2", "*-"));
        refused(ROOM, rows(longRemark, "**a", "=1", "*-"), rows(longRemark, "**a", "=1", "*-"));
        String[] many = ("**a," + Trial.repeat("!!,", 120) + "=1,*-").split(",");
        String[] others = ("**a," + Trial.repeat("!!,", 120) + "=2,*-").split(",");
        refused(OTHER, many, others);
        refused(ROOM, many, many);
        refused(OTHER, rows(Trial.all(7, "**a"), Trial.all(7, "=1"), Trial.all(7, "*-")), rows(Trial.all(7, "**a"), Trial.all(7, "=2"), Trial.all(7, "*-")));
        refused(OTHER, rows(Trial.all(6, "**a"), Trial.all(6, "*^"), Trial.all(12, "=1"), Trial.all(12, "*-")),
                rows(Trial.all(6, "**a"), Trial.all(6, "=2"), Trial.all(6, "*-")));
        refused(ROOM, rows(Trial.all(6, "**a"), Trial.all(6, "*^"), Trial.all(12, "=1"), Trial.all(12, "*-")),
                rows(Trial.all(6, "**a"), Trial.all(6, "=1"), Trial.all(6, "*-")));
    }

    /** A table may be put beside itself. */
    private static void withItself() {
        T.right("!!1", "**recip|**a", "*+|*", "!!2", "*|**kern|*", "4|2c|x", "4|.|y", "=|=|=", "*-|*-|*-", "!!3");
        T.due("assemble", T.x.assemble(0, 0), 1);
        T.dueText("assembled", T.written(1), Trial.rows("!!1", "!!1", "**recip|**a|**recip|**a", "*+|*|*|*", "!!2", "*|**kern|*|*|*",
                "*|*|*|*+|*", "!!2", "*|*|*|*|**kern|*", "4|2c|x|4|2c|x", "4|.|y|4|.|y", Trial.all(6, "="), "*-|*-|*-|*|*|*", "!!3", "*-|*-|*-", "!!3"));
    }

    /** What it makes goes on by itself, and THE TAPE, THE OUT and fault() are as they were. */
    private static void nothingElse() {
        T.faultIn(3, "@x");
        T.read("**a\n*-");
        T.read("!!b");
        T.due("write", T.x.write(1), 4);
        T.due("a fault", T.read("y"), -10);
        T.tape("!!tape");
        T.due("assemble", T.x.assemble(0, 1), 2);
        T.due("fault", T.x.fault(), 3);
        T.due("out", T.x.out(2), 'b');
        T.due("no more out", T.x.out(4), NONE);
        T.due("tape", T.x.cut(6), 0);
        T.due("read of the tape", T.x.read(), 3);
        T.due("byte of it", T.x.token(3, 0, 0, 5), 'e');
        T.x.drop(0);
        T.x.drop(1);
        T.dueText("assembled", T.written(2), Trial.rows("!!b", "**a", "*-"));
    }

    public static void main(String[] args) {
        ahead();
        lesserTime();
        oneHasNone();
        ofOneTime();
        likeBars();
        alone();
        barsAlone();
        atOnce();
        withoutRecords();
        misfits();
        bytes();
        tooManyRows();
        tooManyAtFirst();
        tooManyLater();
        order();
        otherAheadOfRoom();
        withItself();
        nothingElse();
        T.end("AssembleEdgeTest");
    }
}
