/** Promises 7 to 11: told, row, strand, kind, token. */
public final class TableTest {
    private static final Trial T = new Trial();
    private static final int NONE = SpineTables.NONE;
    private static final String[] TABLE = {
        "!! title",
        "**kern|**text",
        "*^|*",
        "4c|8d|la",
        ".|8e|.",
        "!|!x|!",
        "*v|*v|*+",
        "!!in\tbetween",
        "*|*|**dyn",
        "*x|*x|*",
        "=1|=1|=1",
        "lo|4f|p",
        ".|.|f",
        "*-|*-|*^",
        ".|x",
        "*-|*-",
    };

    private static void load() {
        T.begin();
        T.due("read", T.read(TABLE), 0);
        T.due("an empty one", T.read(""), 1);
    }

    private static void told() {
        load();
        int[] due = {16, 14, 5, 1, 3, 3, Trial.rows(TABLE).length()};
        for (int what = 0; what < due.length; what++) {
            T.due("told " + what, T.x.told(0, what), due[what]);
            T.due("told of the empty one " + what, T.x.told(1, what), 0);
        }
        T.noArgument("told what -1", () -> T.x.told(0, -1));
        T.noArgument("told what 7", () -> T.x.told(0, 7));
        T.noIndex("told table 2", () -> T.x.told(2, 0));
        T.noIndex("told table 2 comes ahead of what", () -> T.x.told(2, 7));
        T.noIndex("told table -1", () -> T.x.told(-1, 0));
        T.due("a text that lacks the last 10", T.read("!!x"), 2);
        T.due("is written with it", T.x.told(2, 6), 4);
    }

    private static void row() {
        load();
        int[] sorts = {0, 2, 2, 4, 4, 1, 2, 0, 2, 2, 3, 4, 4, 2, 4, 2};
        int[] tokens = {0, 2, 2, 3, 3, 3, 3, 0, 3, 3, 3, 3, 3, 3, 2, 2};
        for (int r = 0; r < sorts.length; r++) {
            T.due("sort of " + r, T.x.row(0, r, 0), sorts[r]);
            T.due("tokens of " + r, T.x.row(0, r, 1), tokens[r]);
        }
        T.noIndex("row -1", () -> T.x.row(0, -1, 0));
        T.noIndex("row 16", () -> T.x.row(0, 16, 0));
        T.noIndex("row 16 comes ahead of what", () -> T.x.row(0, 16, 2));
        T.noIndex("row of an empty table", () -> T.x.row(1, 0, 0));
        T.noIndex("row of no table", () -> T.x.row(7, 0, 0));
        T.noArgument("row what 2", () -> T.x.row(0, 0, 2));
        T.noArgument("row what -1", () -> T.x.row(0, 0, -1));
    }

    private static void strands(int r, int what, int... due) {
        for (int i = 0; i < due.length; i++) {
            T.due("strand " + i + " at " + r + ", " + what, T.x.strand(0, r, i, what), due[i]);
        }
        T.noIndex("one strand more at " + r, () -> T.x.strand(0, r, due.length, what));
    }

    private static void strand() {
        load();
        strands(1, 0, 0, 1);
        strands(1, 1, 0, 1);
        strands(1, 2, NONE, NONE);
        strands(1, 3, 6, 6);
        strands(2, 3, 1, 0);
        strands(3, 0, 0, 0, 1);
        strands(3, 1, 0, 0, 1);
        strands(3, 2, 3, 3, 3);
        strands(3, 3, 0, 0, 0);
        strands(4, 2, 3, 4, 3);
        strands(5, 2, 3, 4, 3);
        strands(6, 2, 3, 4, 3);
        strands(6, 3, 2, 2, 5);
        strands(8, 0, 0, 1, 2);
        strands(8, 1, 0, 1, 2);
        strands(8, 2, 3, 3, NONE);
        strands(8, 3, 0, 0, 6);
        strands(9, 0, 0, 1, 2);
        strands(9, 3, 3, 3, 0);
        strands(10, 0, 1, 0, 2);
        strands(10, 1, 1, 0, 2);
        strands(10, 2, 3, 3, NONE);
        strands(11, 2, 11, 11, 11);
        strands(12, 2, 11, 11, 12);
        strands(13, 3, 4, 4, 1);
        strands(14, 0, 2, 2);
        strands(14, 1, 2, 2);
        strands(14, 2, 12, 14);
        strands(15, 2, 12, 14);
        strands(15, 3, 4, 4);
    }

    private static void wrongStrands() {
        load();
        T.noIndex("strand of a remark", () -> T.x.strand(0, 0, 0, 0));
        T.noIndex("strand of a remark, wrong what", () -> T.x.strand(0, 7, 0, 9));
        T.noIndex("strand -1", () -> T.x.strand(0, 1, -1, 0));
        T.noIndex("strand at row -1", () -> T.x.strand(0, -1, 0, 0));
        T.noIndex("strand at row 16", () -> T.x.strand(0, 16, 0, 0));
        T.noIndex("strand of the greatest numbers", () -> T.x.strand(0, Integer.MAX_VALUE, Integer.MAX_VALUE, 0));
        T.noIndex("strand of no table", () -> T.x.strand(5, 1, 0, 0));
        T.noArgument("strand what -1", () -> T.x.strand(0, 1, 0, -1));
        T.noArgument("strand what 4", () -> T.x.strand(0, 1, 0, 4));
    }

    private static void joinGoesOnFromTheFirst() {
        T.begin();
        T.read(new String[] {"**text|**text|**recip", ".|b|4", "a|.|4", "*v|*v|*", ".|4", "*+|*", "*|**text|*", "*-|*-|*-"});
        T.due("number", T.x.strand(0, 4, 0, 1), 0);
        T.due("held", T.x.strand(0, 4, 0, 2), 2);
        T.due("number of the new one", T.x.strand(0, 6, 1, 1), 3);
        T.due("kind of the new one", T.x.strand(0, 6, 1, 0), 0);
        T.due("kinds", T.x.told(0, 4), 2);
    }

    private static void dueKind(int k, String name) {
        for (int i = 0; i < name.length(); i++) {
            T.due("byte " + i + " of kind " + k, T.x.kind(0, k, i), name.charAt(i));
        }
        T.due("behind kind " + k, T.x.kind(0, k, name.length()), NONE);
    }

    private static void kind() {
        load();
        dueKind(0, "kern");
        dueKind(1, "text");
        dueKind(2, "dyn");
        T.due("byte -1", T.x.kind(0, 0, -1), NONE);
        T.due("byte of the greatest number", T.x.kind(0, 0, Integer.MAX_VALUE), NONE);
        T.due("byte of the least number", T.x.kind(0, 0, Integer.MIN_VALUE), NONE);
        T.noIndex("kind 3", () -> T.x.kind(0, 3, 0));
        T.noIndex("kind -1", () -> T.x.kind(0, -1, 0));
        T.noIndex("kind of the empty one", () -> T.x.kind(1, 0, 0));
        T.noIndex("kind of no table", () -> T.x.kind(2, 0, 0));
        T.begin();
        T.read(new String[] {"**abcdefgh|**a|**abcdefgh", "*-|*-|*-"});
        dueKind(0, "abcdefgh");
        dueKind(1, "a");
        T.noIndex("each kind counts once", () -> T.x.kind(0, 2, 0));
    }

    private static void dueToken(int r, int i, String bytes) {
        for (int k = 0; k < bytes.length(); k++) {
            T.due("byte " + k + " of token " + i + " at " + r, T.x.token(0, r, i, k), bytes.charAt(k));
        }
        T.due("behind token " + i + " at " + r, T.x.token(0, r, i, bytes.length()), NONE);
        T.due("ahead of token " + i + " at " + r, T.x.token(0, r, i, -1), NONE);
        T.due("far behind token", T.x.token(0, r, i, Integer.MAX_VALUE), NONE);
    }

    private static void token() {
        load();
        dueToken(0, 0, "!! title");
        dueToken(7, 0, "!!in\tbetween");
        dueToken(1, 0, "**kern");
        dueToken(1, 1, "**text");
        dueToken(4, 0, ".");
        dueToken(11, 2, "p");
        dueToken(15, 1, "*-");
        T.noIndex("token 1 of a remark", () -> T.x.token(0, 0, 1, 0));
        T.noIndex("token -1 of a remark", () -> T.x.token(0, 0, -1, 0));
        T.noIndex("token 2 of two", () -> T.x.token(0, 1, 2, 0));
        T.noIndex("token -1", () -> T.x.token(0, 1, -1, 0));
        T.noIndex("token at row 16", () -> T.x.token(0, 16, 0, 0));
        T.noIndex("token of no table", () -> T.x.token(8, 0, 0, 0));
    }

    public static void main(String[] args) {
        told();
        row();
        strand();
        wrongStrands();
        joinGoesOnFromTheFirst();
        kind();
        token();
        T.end("TableTest");
    }
}
