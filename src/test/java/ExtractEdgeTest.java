/** EXTRACT and promise 17, sentence by sentence. */
public final class ExtractEdgeTest {
    private static final Trial T = new Trial();
    private static final int NONE = SpineTables.NONE, FULL = SpineTables.FULL;
    private static final int UNKNOWN = SpineTables.UNKNOWN, OTHER = SpineTables.OTHER;

    private static String[] rows(String... rows) {
        return rows;
    }

    private static void due(String kind, String[] from, String... due) {
        T.right(from);
        T.due("extract of " + kind, T.extract(0, kind), 1);
        T.dueText("extract of " + kind + " from " + String.join(" / ", from), T.written(1), Trial.rows(due));
        T.due("the tape is empty", T.x.cut(1), NONE);
        T.dueText("the table stays", T.written(0), Trial.rows(from));
        T.due("read of what came", T.read(T.written(1)), 2);
        T.due("is the same", T.x.same(1, 2), true);
    }

    private static void refused(int answer, String kind, String... from) {
        T.right(from);
        T.due("extract of " + kind, T.extract(0, kind), answer);
        T.due("the tape is empty behind it", T.x.cut(1), NONE);
        T.noIndex("no table came", () -> T.x.told(1, 0));
    }

    /** The RECORDS in order, of each the TOKENS of STRANDS of this KIND; REMARKS go. */
    private static void inOrder() {
        String[] from = {"!!1", "**a|**b|**a|**c", "!!2", "x|y|z|w", "=1|=2|=3|=4", "!p|!q|!r|!s", "*P|*Q|*R|*S", "!!3", Trial.all(4, "*-"), "!!4"};
        due("a", from, "**a|**a", "x|z", "=1|=3", "!p|!r", "*P|*R", "*-|*-");
        due("b", from, "**b", "y", "=2", "!q", "*Q", "*-");
        due("c", from, "**c", "w", "=4", "!s", "*S", "*-");
        String all = Trial.all(12, "**abcdefgh");
        due("abcdefgh", rows(all, Trial.all(12, "x"), Trial.all(12, "*-")), all, Trial.all(12, "x"), Trial.all(12, "*-"));
    }

    /** STRANDS of the KIND are followed wherever they go. */
    private static void follows() {
        due("a", rows("**b|**a|**b", "*x|*x|*", "x|y|z", "*^|*|*", "p|q|r|s", "*|*x|*x|*", "k|l|m|n", Trial.all(4, "*-")),
                "**a", "x", "*^", "p|q", "k|m", "*-|*-");
        due("a", rows("**a|**b|**b|**a", "*|*v|*v|*", "x|y|z", "*-|*|*", "y|z", "*-|*", "k", "*-"), "**a|**a", "x|z", "*-|*", "z", "k", "*-");
    }

    /** A *x whose other one is not of the KIND becomes *; one whose other one is of it stays. */
    private static void swaps() {
        String[] from = {"**a|**b|**a|**a", "*x|*x|*|*", "*|*x|*x|*", "*|*|*x|*x", "*x|*x|*|*Q", Trial.all(4, "*-")};
        due("a", from, "**a|**a|**a", "*x|*x|*", "*|*x|*x", "*|*|*Q", "*-|*-|*-");
    }

    /** A *+ whose new STRAND is not of the KIND becomes *; one whose new one is of it stays. */
    private static void begins() {
        due("a", rows("**a|**b", "*+|*", "!!", "*|**b|*", "x|y|z", "*-|*-|*-"), "**a", "x", "*-");
        due("a", rows("**a|**b", "*+|*Q", "!!", "*|**a|*", "x|y|z", "*-|*-|*-"), "**a", "*+", "*|**a", "x|y", "*-|*-");
        due("b", rows("**a|**b", "*+|*", "*|**a|*", "x|y|z", "*-|*-|*-"), "**b", "z", "*-");
        due("b", rows("**a|**b", "*+|*Q", "*|**a|*R", "x|y|z", "*-|*-|*-"), "**b", "*Q", "*R", "z", "*-");
        due("a", rows("**a|**a", "*+|*Q", "*|**b|*", Trial.all(3, "*-")), "**a|**a", "*|*Q", "*-|*-");
        // Behind what splits, joins and changes places in the same RECORD.
        due("a", rows("**a|**b|**a", "*^|*|*+", "*|*|*|*|**a", Trial.all(5, "*-")), "**a|**a", "*^|*+", "*|*|*|**a", Trial.all(4, "*-"));
        due("a", rows("**b|**a|**a", "*+|*x|*x", "*|**c|*|*", Trial.all(4, "*-")), "**a|**a", "*x|*x", "*-|*-");
        due("a", rows("**b|**a|**a", "*|*+|*-", "*|*|**b", Trial.all(3, "*-")), "**a|**a", "*|*-", "*-");
    }

    /** RECORDS without TOKENS go: none of the KIND is left. */
    private static void withoutTokens() {
        due("a", rows("**a|**b", "*-|*", "x", "=", "!n", "*Q", "*-"), "**a", "*-");
        due("a", rows("**a|**b|**a", "*-|*|*", "x|y", "*|*-", "x", "=", "*-"), "**a|**a", "*-|*", "y", "*-");
    }

    /** Those of DATA with . alone go; all others stay. */
    private static void emptyData() {
        due("a", rows("**a|**a|**b", ".|.|x", ".|y|x", "y|.|.", "..|.|.", ". |.|.", ".|.x|.", ".|.|.", "*-|*-|*-"),
                "**a|**a", ".|y", "y|.", "..|.", ". |.", ".|.x", "*-|*-");
        due("b", rows("**a|**a|**b", ".|.|x", "x|y|.", ".|.|.", "*-|*-|*-"), "**b", "x", "*-");
    }

    /** Those of ACTS with * alone go, also where something became *; all others stay. */
    private static void emptyActs() {
        due("a", rows("**a|**a|**b", "*|*|*Q", "*|*Q|*", "*^|*|*", "*v|*v|*|*", "*R|*|*", "*|*x|*x", "*+|*|*",
                "*|**c|*|*", "*|*|*|*", Trial.all(4, "*-")),
                "**a|**a", "*|*Q", "*^|*", "*v|*v|*", "*R|*", "*-|*-");
    }

    /** Those of NOTES with ! alone go; all others stay. */
    private static void emptyNotes() {
        due("a", rows("**a|**a|**b", "!|!|!n", "!|!n|!", "! |!|!", "!|!!|!", "!|!|!", "*-|*-|*-"),
                "**a|**a", "!|!n", "! |!", "!|!!", "*-|*-");
        due("b", rows("**a|**b", "!|!", "!n|!", "!|! ", "*-|*-"), "**b", "! ", "*-");
    }

    /** BARS stay, whatever they are. */
    private static void bars() {
        due("a", rows("**a|**b", "=|=1", "=.|=", "=|=", "*-|*-"), "**a", "=", "=.", "=", "*-");
    }

    /** UNKNOWN: the first RECORD has no STRAND of it, or there is no RECORD. */
    private static void unknown() {
        String[] from = {"**kern|**abcdefgh", "*+|*", "*|**new|*", "*-|*-|*-"};
        for (String kind : new String[] {"", "k", "ker", "kerm", "kernn", "kern\n", " kern", "KERN", "**kern", "abcdefg", "abcdefghi", "new", "\u0080"}) {
            refused(UNKNOWN, kind, from);
        }
        refused(UNKNOWN, Trial.repeat("kern", 750), from);
        refused(UNKNOWN, "a");
        refused(UNKNOWN, "", "!!");
        refused(UNKNOWN, "a", "!!", "!!**a");
        T.right(from);
        T.due("the last that is known", T.extract(0, "abcdefgh"), 1);
        T.due("the first that is known", T.extract(0, "kern"), 2);
    }

    /** OTHER: a STRAND of it began by a *+ of one of another KIND. */
    private static void other() {
        refused(OTHER, "a", "**a|**b", "*|*+", "*|*|**a", "*-|*-|*-");
        refused(OTHER, "a", "**b|**a", "*+|*", "*|**a|*", "*-|*-|*-");
        refused(OTHER, "a", "**a|**b", "*-|*", "*+", "*|**a", "*-|*-");
        refused(OTHER, "a", "**a|**b", "*+|*", "*|**a|*+", "*|*|*|**a", Trial.all(4, "*-"));
        due("b", rows("**a|**b", "*|*+", "*|*|**a", "*-|*-|*-"), "**b", "*-");
        due("a", rows("**a|**b", "*+|*", "*|**a|*+", "*|*|*|**b", Trial.all(4, "*-")), "**a", "*+", "*|**a", "*-|*-");
        // One of another KIND that an added one of yet another KIND began.
        due("a", rows("**a|**b", "*|*+", "*|*|**c", "*|*|*+", "*|*|*|**b", Trial.all(4, "*-")), "**a", "*-");
        refused(OTHER, "b", "**a|**b", "*|*+", "*|*|**c", "*|*|*+", "*|*|*|**b", Trial.all(4, "*-"));
    }

    /** FULL, named behind the others; else the least number that is free. */
    private static void full() {
        T.right("**a|**b", "*|*+", "*|*|**a", "*-|*-|*-");
        for (int t = 1; t < 7; t++) {
            T.due("read", T.x.read(), t);
        }
        T.due("the last that is free", T.extract(0, "b"), 7);
        T.due("full", T.extract(0, "b"), FULL);
        T.due("the tape is empty", T.x.cut(1), NONE);
        T.due("other", T.extract(0, "a"), OTHER);
        T.due("unknown", T.extract(0, "c"), UNKNOWN);
        T.x.drop(5);
        T.x.drop(2);
        T.due("the least", T.extract(0, "b"), 2);
        T.due("the next", T.extract(2, "b"), 5);
        T.due("alike", T.x.same(2, 5), true);
        T.due("full again", T.extract(0, "b"), FULL);
        // What it comes from may go.
        T.x.drop(0);
        T.dueText("it stays", T.written(5), Trial.rows("**b", "*-"));
    }

    /** As many STRANDS as there may be, one of them begun by *+. */
    private static void mostStrands() {
        due("a", rows(Trial.all(11, "**a"), Trial.but(11, 10, "*+"), Trial.but(12, 11, "**a"), Trial.all(12, "*-")),
                Trial.all(11, "**a"), Trial.but(11, 10, "*+"), Trial.but(12, 11, "**a"), Trial.all(12, "*-"));
        due("a", rows(Trial.all(11, "**a"), Trial.but(11, 10, "*+"), Trial.but(12, 11, "**b"), Trial.all(12, "*-")),
                Trial.all(11, "**a"), Trial.all(11, "*-"));
        refused(OTHER, "b", "**b|" + Trial.all(10, "**a"), Trial.but(11, 10, "*+"), Trial.but(12, 11, "**b"), Trial.all(12, "*-"));
    }

    /** The longest table, which is written with 3001 bytes, goes out as it is. */
    private static void longest() {
        String text = "**a\n" + Trial.repeat(Trial.repeat("x", 39) + "\n", 74) + Trial.repeat("y", 33) + "\n*-";
        T.begin();
        T.due("bytes", text.length(), 3000);
        T.due("read", T.read(text), 0);
        T.due("extract", T.extract(0, "a"), 1);
        T.due("is the same", T.x.same(0, 1), true);
        T.due("bytes as written", T.x.told(1, 6), 3001);
        T.due("write", T.x.write(1), 3001);
        T.due("its last byte", T.x.out(3000), 10);
    }

    /** A call that throws leaves THE TAPE as it was. */
    private static void throwing() {
        T.right("**a", "*-");
        T.tape("a");
        for (int t : new int[] {-1, 1, 7, 8, Integer.MAX_VALUE, Integer.MIN_VALUE}) {
            T.noIndex("extract of " + t, () -> T.x.extract(t));
        }
        T.due("the tape is as it was", T.x.cut(1), 0);
        T.due("extract", T.x.extract(0), 1);
        T.due("fault is as it was", T.x.fault(), 0);
        T.faultIn(3, "@x");
        T.due("a table", T.read("**a\n*-"), 0);
        T.due("a fault", T.read("y"), -10);
        T.due("extract", T.extract(0, "a"), 1);
        T.due("fault is that of read", T.x.fault(), 3);
    }

    public static void main(String[] args) {
        inOrder();
        follows();
        swaps();
        begins();
        withoutTokens();
        emptyData();
        emptyActs();
        emptyNotes();
        bars();
        unknown();
        other();
        full();
        mostStrands();
        longest();
        throwing();
        T.end("ExtractEdgeTest");
    }
}
