/** "Terms", sentence by sentence, of texts: the last case that is allowed, and the first that is not. */
public final class TermsTest {
    private static final Trial T = new Trial();
    private static final int NONE = SpineTables.NONE;

    private static void dueRows(String text, int rows) {
        T.begin();
        T.due("read of [" + text + "]", T.read(text), 0);
        T.due("rows of [" + text + "]", T.x.told(0, 0), rows);
    }

    private static void dueSort(int r, int sort, int tokens) {
        T.due("sort of row " + r, T.x.row(0, r, 0), sort);
        T.due("tokens of row " + r, T.x.row(0, r, 1), tokens);
    }

    /** What strand() tells of all STRANDS at a RECORD, and that there are no more. */
    private static void dueStrands(int r, int what, int... due) {
        for (int i = 0; i < due.length; i++) {
            T.due("strand " + i + " at " + r + ", " + what, T.x.strand(0, r, i, what), due[i]);
        }
        T.noIndex("one strand more at " + r, () -> T.x.strand(0, r, due.length, what));
    }

    /** Each LINE goes up to a byte 10 or to the end of the text; behind a 10 that is the last byte there is none. */
    private static void lines() {
        dueRows("", 0);
        dueRows("!!", 1);
        dueRows("!!\n", 1);
        dueRows("!!\n!!", 2);
        dueRows("!!\n!!\n", 2);
        dueRows("**a\n*-", 2);
        dueRows("**a\n*-\n", 2);
        T.faultIn(2, "@\n");
        T.faultIn(2, "!!\n@\n");
        T.faultIn(2, "!!\n@\n!!");
        T.faultIn(2, "**a\n*-\n@\n");
    }

    /** A LINE that begins with !! is a REMARK. */
    private static void remarks() {
        T.right("!!", "!!!", "!!||", "!!*-|x", "**a|**a", "!!", "!x|!!", "!!x", "*-|*-", "!!|!!|!!");
        int[] sorts = {0, 0, 0, 0, 2, 0, 1, 0, 2, 0};
        for (int r = 0; r < sorts.length; r++) {
            dueSort(r, sorts[r], sorts[r] == 0 ? 0 : 2);
        }
        T.right("!!" + Trial.repeat("x", 2997));
        dueSort(0, 0, 0);
        T.fault(3, "@!", "**a", "*-");
        T.fault(3, "@! !", "**a", "*-");
        T.fault(3, "@ !!", "**a", "*-");
        T.right("**a", "!", "!x!", " !!", "=!!", "*!!", "*-");
        dueSort(1, 1, 1);
        dueSort(2, 1, 1);
        dueSort(3, 4, 1);
        dueSort(4, 3, 1);
        dueSort(5, 2, 1);
    }

    /** TOKENS of 1 to 40 bytes with one byte 9 between. */
    private static void tokenSizes() {
        for (String first : new String[] {"!", "*", "=", "x", "."}) {
            String forty = first + Trial.repeat("y", 39);
            T.right("**a|**b", first + "|" + forty, forty + "|" + first, forty + "|" + forty, "*-|*-");
            T.due("byte 39", T.x.token(0, 1, 1, 39), 'y');
            T.due("no byte 40", T.x.token(0, 1, 1, 40), NONE);
            T.fault(2, "**a|**b", "@" + forty + "y|" + first, "*-|*-");
            T.fault(2, "**a|**b", first + "|@" + forty + "y", "*-|*-");
            T.fault(2, "**a|**b", "@|" + first, "*-|*-");
            T.fault(2, "**a|**b", first + "|@", "*-|*-");
            T.fault(2, "**a|**b", first + "|@|" + first, "*-|*-");
        }
    }

    private static int sortOf(char first) {
        switch (first) {
            case '!':
                return 1;
            case '*':
                return 2;
            case '=':
                return 3;
            default:
                return 4;
        }
    }

    /** The SORT is told by the first byte of the first TOKEN: 1 NOTES !, 2 ACTS *, 3 BARS =, 4 DATA any other. */
    private static void sorts() {
        for (char first = 32; first < 127; first++) {
            T.begin();
            T.due("read", T.read("**a\n" + first + "\n" + first + "k\n*-\n"), 0);
            dueSort(1, sortOf(first), 1);
            dueSort(2, sortOf(first), 1);
            T.due("records", T.x.told(0, 1), 4);
            T.due("data", T.x.told(0, 2), sortOf(first) == 4 ? 2 : 0);
            T.due("bars", T.x.told(0, 3), sortOf(first) == 3 ? 2 : 0);
        }
    }

    /** ROWS are from 0 on, 200 at most, REMARKS and RECORDS alike. */
    private static void mostRows() {
        for (String row : new String[] {"!!", "!", "*", "=", "x"}) {
            String most = "**a\n" + Trial.repeat(row + "\n", 198) + "*-";
            dueRows(most, 200);
            T.due("tokens of row 199", T.x.row(0, 199, 1), 1);
            T.noIndex("row 200", () -> T.x.row(0, 200, 1));
            dueRows(most + "\n", 200);
            T.faultIn(7, most + "\n@!!");
            T.faultIn(7, most + "\n@\n");
            T.faultIn(7, "**a\n" + Trial.repeat(row + "\n", 199) + "@*-");
        }
        dueRows(Trial.repeat("!!\n", 200), 200);
        T.faultIn(7, Trial.repeat("!!\n", 200) + "@!!\n");
    }

    /** The first RECORD has TOKENS **KIND alone, a KIND being 1 to 8 letters a .. z. */
    private static void kinds() {
        T.right("**a|**abcdefgh|**z|**zzzzzzzz", Trial.all(4, "*-"));
        T.fault(3, "@**");
        T.fault(3, "@**abcdefghi");
        T.fault(3, "**a|@**");
        T.fault(3, "**a|@**abcdefghi");
        for (char letter = 32; letter < 127; letter++) {
            if (letter >= 'a' && letter <= 'z') {
                T.right("**" + letter, "*-");
                T.right("**x" + letter + "x", "*-");
                T.due("byte of the name", T.x.kind(0, 0, 1), letter);
            } else {
                T.begin();
                T.dueFault("**" + letter + "\n*-\n", 3, 0);
                T.dueFault("**x" + letter + "x\n*-\n", 3, 0);
                T.dueFault("**x" + letter + "\n*-\n", 3, 0);
            }
        }
    }

    /** The first RECORD has 1 to 12 STRANDS, in this order. */
    private static void mostStrands() {
        for (int n = 1; n <= 12; n++) {
            T.right("!!", Trial.all(n, "**a"), Trial.all(n, "*-"));
            dueSort(1, 2, n);
            for (int i = 0; i < n; i++) {
                T.due("number", T.x.strand(0, 1, i, 1), i);
            }
        }
        T.fault(7, Trial.all(12, "**a") + "|@**a", Trial.all(13, "*-"));
        T.fault(7, Trial.all(12, "**a") + "|@**b|**a", Trial.all(14, "*-"));
        T.right("**c|**a|**b|**a", Trial.all(4, "*-"));
        dueStrands(0, 0, 0, 1, 2, 1);
        dueStrands(1, 0, 0, 1, 2, 1);
    }

    /** Each further RECORD has a TOKEN for each STRAND that there is. */
    private static void aTokenForEach() {
        for (int n = 2; n <= 12; n++) {
            String first = Trial.all(n, "**a");
            for (String token : new String[] {"!", "*", "=", "x"}) {
                T.right(first, Trial.all(n, token), Trial.all(n, "*-"));
                T.fault(4, first, Trial.all(n - 1, token) + "@", Trial.all(n, "*-"));
                T.fault(4, first, Trial.all(n, token) + "|@" + token, Trial.all(n, "*-"));
            }
            T.fault(4, first, Trial.all(n - 1, "*-") + "@");
        }
        T.fault(4, "**a", "x|@x", "*-");
        T.faultIn(4, "**a\t**a\nx@");
    }

    /** *^: in its place there are two STRANDS like it. */
    private static void splits() {
        T.right("**a|**b|**c", "*|*^|*", "*^|*|*|*^", Trial.all(6, "*-"));
        dueStrands(1, 0, 0, 1, 2);
        dueStrands(2, 0, 0, 1, 1, 2);
        dueStrands(2, 1, 0, 1, 1, 2);
        dueStrands(3, 0, 0, 0, 1, 1, 2, 2);
        dueStrands(3, 1, 0, 0, 1, 1, 2, 2);
        T.right(Trial.all(6, "**a"), Trial.all(6, "*^"), Trial.all(12, "*-"));
        dueStrands(2, 1, 0, 0, 1, 1, 2, 2, 3, 3, 4, 4, 5, 5);
    }

    /** *v: two or more side by side, of one KIND, become one, the first of them. */
    private static void joins() {
        T.right("**a|**b|**b|**b|**a", "*|*v|*v|*|*", "*|*v|*v|*", "*-|*-|*-");
        dueStrands(1, 1, 0, 1, 2, 3, 4);
        dueStrands(2, 1, 0, 1, 3, 4);
        dueStrands(3, 1, 0, 1, 4);
        dueStrands(3, 0, 0, 1, 0);
        for (int n = 2; n <= 12; n++) {
            T.right(Trial.all(n, "**a"), Trial.all(n, "*v"), "*-");
            dueStrands(2, 1, 0);
        }
        T.right("**a|**a|**a", "*|*v|*v", "*-|*-");
        T.fault(6, "**a|**a|**a", "*|*|@*v", "*-|*-|*-");
        T.fault(6, "**a|**a|**a", "@*v|*|*", "*-|*-|*-");
        T.fault(6, "**a|**b|**a", "@*v|*|*v", "*-|*-|*-");
    }

    /** One group of *v in a RECORD at most. */
    private static void oneJoin() {
        T.right(Trial.all(4, "**a"), "*v|*v|*|*", "*|*v|*v", "*-|*-");
        T.fault(6, Trial.all(5, "**a"), "*v|*v|*|@*v|*v", "*-|*-|*-");
        T.fault(6, Trial.all(5, "**a"), "*v|*v|*|*|@*v", Trial.all(4, "*-"));
        T.fault(6, "**a|**a|**b|**b", "*v|*v|@*v|*v", "*-|*-");
    }

    /** *x: just two side by side change places, two in a RECORD at most. */
    private static void swaps() {
        T.right("**a|**b|**c|**d", "*x|*x|*|*", "*|*|*x|*x", "*|*x|*x|*", Trial.all(4, "*-"));
        dueStrands(1, 0, 0, 1, 2, 3);
        dueStrands(2, 0, 1, 0, 2, 3);
        dueStrands(3, 0, 1, 0, 3, 2);
        dueStrands(4, 0, 1, 3, 0, 2);
        dueStrands(4, 1, 1, 3, 0, 2);
        T.fault(6, "**a|**b", "@*x|*", "*-|*-");
        T.fault(6, "**a|**b", "*|@*x", "*-|*-");
        T.fault(6, "**a|**b|**c", "@*x|*|*x", "*-|*-|*-");
        T.fault(6, "**a|**b|**c", "*x|*x|@*x", "*-|*-|*-");
        T.fault(6, Trial.all(4, "**a"), "*x|*x|@*x|*x", Trial.all(4, "*-"));
        T.fault(6, Trial.all(5, "**a"), "*x|*x|*|@*x|*x", Trial.all(5, "*-"));
    }

    /** *-: it ends. */
    private static void ends() {
        T.right("**a|**b|**c", "*|*-|*", "*-|*", "*-");
        dueStrands(2, 1, 0, 2);
        dueStrands(3, 1, 2);
        T.right(Trial.all(12, "**a"), Trial.but(12, 11, "*-"), Trial.but(11, 0, "*-"), Trial.all(10, "*-"));
        dueStrands(3, 1, 1, 2, 3, 4, 5, 6, 7, 8, 9, 10);
    }

    /** *+: behind it a new one begins, one in a RECORD at most; its TOKEN in the next RECORD is **KIND. */
    private static void begins() {
        T.right("**a|**b", "*+|*", "!!", "*|**c|*+", "!!", "*|*|*|**a", Trial.all(4, "*-"));
        dueStrands(1, 0, 0, 1);
        dueStrands(3, 0, 0, 2, 1);
        dueStrands(3, 1, 0, 2, 1);
        dueStrands(3, 3, 0, 6, 5);
        dueStrands(5, 0, 0, 2, 1, 0);
        dueStrands(5, 1, 0, 2, 1, 3);
        T.fault(6, "**a|**b", "*+|@*+", "*|**c|*|**c", Trial.all(4, "*-"));
        for (String other : new String[] {"*", "*-", "*^", "*x", "*v", "*+", "*c", "**", "**C", "**abcdefghi", "**c "}) {
            T.fault(6, "**a|**a", "*|*+", "*|*|@" + other, Trial.all(3, "*-"));
        }
        for (String other : new String[] {"!", "=", "x", "."}) {
            T.fault(6, "**a", "*+", other + "|@" + other, "*|**c", "*-|*-");
            T.fault(5, "**a", "*+", "*|@" + other, "*-|*-");
            T.fault(5, "**a", "*+", other + "|@**c", "*-|*-");
        }
        T.fault(8, "**a", "*+", "!!", "@");
    }

    /** **KIND stands nowhere else. */
    private static void kindNowhereElse() {
        T.fault(6, "**a", "@**a", "*-");
        T.fault(6, "**a|**b", "*|@**b", "*-|*-");
        T.fault(6, "**a", "*+", "@**a|**c", "*-|*-");
        T.fault(6, "**a", "*+", "*|**c", "*|@**c", "*-|*-");
        T.fault(6, "**a", "*^", "*|@**a", "*-|*-");
        T.fault(6, "**a", "@**", "*-");
        T.fault(6, "**a", "@***", "*-");
    }

    /** All other TOKENS of ACTS tell something and change nothing. */
    private static void otherActs() {
        for (String act : new String[] {"*", "*^^", "*vv", "*xx", "*--", "*++", "*V", "*X", "* ^", "*^ ", "*M4/4", "*v*", "*_", "*~"}) {
            T.right("**a|**b", "*|" + act, act + "|*", act + "|" + act, "*-|*-");
            dueStrands(1, 3, 0, 0);
            dueStrands(3, 3, 0, 0);
            dueStrands(4, 1, 0, 1);
            dueStrands(4, 3, 4, 4);
        }
        T.right("**a|**a", "*^|*", "*v|*v|*", "*x|*x", "*+|*", "*|**b|*", "*-|*-|*-");
        dueStrands(0, 3, 6, 6);
        dueStrands(1, 3, 1, 0);
        dueStrands(2, 3, 2, 2, 0);
        dueStrands(3, 3, 3, 3);
        dueStrands(4, 3, 5, 0);
        dueStrands(5, 3, 0, 6, 0);
        dueStrands(6, 3, 4, 4, 4);
    }

    /** What ACTS change holds from the next RECORD on, whatever REMARKS are between. */
    private static void fromTheNextRecord() {
        T.right("**a|**b", "*x|*x", "!!", "!|!", "!!", "*^|*-", "!!", "*-|*-");
        dueStrands(1, 0, 0, 1);
        dueStrands(3, 0, 1, 0);
        dueStrands(5, 0, 1, 0);
        dueStrands(7, 0, 1, 1);
        T.noIndex("a remark has no strand", () -> T.x.strand(0, 6, 0, 0));
    }

    /** When the text ends no STRAND is left. */
    private static void noneIsLeft() {
        T.right("**a|**b", "*-|*", "*-", "!!");
        T.fault(8, "**a", "@");
        T.fault(8, "**a|**b", "*-|*", "@");
        T.fault(8, "**a|**b", "*-|*^", "*-|*", "!!", "@");
        T.faultIn(8, "**a\n*@");
        T.fault(4, "**a", "*-", "@*-");
        T.fault(4, "**a", "*-", "@**a", "*-");
        T.fault(4, "**a", "*-", "!!", "@x");
    }

    /** A text without RECORDS is a table, too. */
    private static void withoutRecords() {
        for (String text : new String[] {"", "!!", "!!x\n!!y\n"}) {
            T.begin();
            T.due("read", T.read(text), 0);
            T.due("fault", T.x.fault(), 0);
            for (int what = 1; what <= 5; what++) {
                T.due("told " + what, T.x.told(0, what), 0);
            }
            T.due("fits", T.x.walk(0), NONE);
            T.due("no misfit", T.x.misfit(0), 0);
            T.due("bars", T.x.bars(0), NONE);
            T.due("time", T.x.time(0, T.x.told(0, 0), 0), 0);
            T.due("time below", T.x.time(0, T.x.told(0, 0), 1), 1);
            T.noIndex("no kind", () -> T.x.kind(0, 0, 0));
        }
    }

    /** Each new one has the next number; by *^ both have that of the one split, by *v that of the first. */
    private static void numbers() {
        T.right(Trial.all(11, "**a"), Trial.but(11, 0, "*+"), Trial.but(12, 1, "**a"), Trial.but(12, 1, "*-"),
                Trial.but(11, 10, "*+"), Trial.but(12, 11, "**b"), Trial.all(12, "*-"));
        dueStrands(2, 1, 0, 11, 1, 2, 3, 4, 5, 6, 7, 8, 9, 10);
        dueStrands(5, 1, 0, 1, 2, 3, 4, 5, 6, 7, 8, 9, 10, 12);
        T.right("**a|**a", "*v|*v", "*+", "*^|**a", "*+|*|*", "*|**b|*|*", "*|*|*v|*v", "*-|*-|*-");
        dueStrands(2, 1, 0);
        dueStrands(3, 1, 0, 2);
        dueStrands(4, 1, 0, 0, 2);
        dueStrands(5, 1, 0, 3, 0, 2);
        dueStrands(7, 1, 0, 3, 0);
    }

    /** As many TOKENS as go into 3000 bytes. */
    private static void mostTokens() {
        String text = Trial.rows(Trial.all(12, "**a")) + Trial.repeat(Trial.rows(Trial.all(12, ".")), 120) + Trial.rows(Trial.all(11, ".") + "|xyz", Trial.all(12, "*-"));
        T.begin();
        T.due("bytes", text.length(), 2990);
        T.due("read", T.read(text), 0);
        T.due("rows", T.x.told(0, 0), 123);
        T.due("tokens", T.x.row(0, 122, 1), 12);
        dueStrands(121, 2, NONE, NONE, NONE, NONE, NONE, NONE, NONE, NONE, NONE, NONE, NONE, 121);
        dueStrands(122, 1, 0, 1, 2, 3, 4, 5, 6, 7, 8, 9, 10, 11);
        T.due("a byte", T.x.token(0, 121, 11, 2), 'z');
        T.due("bytes as written", T.x.told(0, 6), 2990);
    }

    private static String name(int n) {
        return "" + (char) ('a' + n / 26) + (char) ('a' + n % 26);
    }

    /** As many KINDS as go into 200 ROWS: each RECORD tells one and begins the next. */
    private static void mostKinds() {
        StringBuilder text = new StringBuilder("**aa\n*+\n*+\t**" + name(1) + "\n");
        for (int n = 2; n < 197; n++) {
            text.append("*+\t**").append(name(n)).append("\t*-\n");
        }
        text.append("*\t**").append(name(197)).append("\t*-\n*-\t*-\n");
        T.begin();
        T.due("read", T.read(text.toString()), 0);
        T.due("rows", T.x.told(0, 0), 200);
        T.due("kinds", T.x.told(0, 4), 198);
        for (int n = 0; n < 198; n += 7) {
            T.due("first byte of kind " + n, T.x.kind(0, n, 0), name(n).charAt(0));
            T.due("second byte of kind " + n, T.x.kind(0, n, 1), name(n).charAt(1));
            T.due("no third one", T.x.kind(0, n, 2), NONE);
        }
        T.noIndex("one more", () -> T.x.kind(0, 198, 0));
        dueStrands(199, 0, 0, 197);
        dueStrands(199, 1, 0, 197);
        dueStrands(198, 3, 0, 6, 4);
    }

    /** HELD is the ROW, up to this one, of the latest DATA TOKEN that is not . alone; else NONE. */
    private static void held() {
        T.right("**a|**b", "!x|!", "!!", "=1|=1", "*K|*", "x|.", "!!", ".|..", ". |.", "!y|!z", "=|=", "*L|*L", ".|y", "*-|*-");
        dueStrands(0, 2, NONE, NONE);
        dueStrands(1, 2, NONE, NONE);
        dueStrands(3, 2, NONE, NONE);
        dueStrands(4, 2, NONE, NONE);
        dueStrands(5, 2, 5, NONE);
        dueStrands(7, 2, 5, 7);
        dueStrands(8, 2, 8, 7);
        dueStrands(9, 2, 8, 7);
        dueStrands(10, 2, 8, 7);
        dueStrands(11, 2, 8, 7);
        dueStrands(12, 2, 8, 12);
        dueStrands(13, 2, 8, 12);
    }

    /** Behind *^ both go on from the one split, behind *v from the first; a new one has none. */
    private static void heldGoesOn() {
        T.right("**a", "x", "*^", ".|y", ".|.", "*x|*x", "!|!", "*v|*v", "!", "*+", "*|**a", ".|.", "*-|*", ".", "*-");
        dueStrands(2, 2, 1);
        dueStrands(3, 2, 1, 3);
        dueStrands(4, 2, 1, 3);
        dueStrands(5, 2, 1, 3);
        dueStrands(6, 2, 3, 1);
        dueStrands(7, 2, 3, 1);
        dueStrands(8, 2, 3);
        dueStrands(10, 2, 3, NONE);
        dueStrands(11, 2, 3, NONE);
        dueStrands(13, 2, NONE);
        T.right("**a|**a|**a", ".|x|y", "*v|*v|*v", "!", "*-");
        dueStrands(3, 2, NONE);
    }

    public static void main(String[] args) {
        lines();
        remarks();
        tokenSizes();
        sorts();
        mostRows();
        kinds();
        mostStrands();
        aTokenForEach();
        splits();
        joins();
        oneJoin();
        swaps();
        ends();
        begins();
        kindNowhereElse();
        otherActs();
        fromTheNextRecord();
        noneIsLeft();
        withoutRecords();
        numbers();
        mostTokens();
        mostKinds();
        held();
        heldGoesOn();
        T.end("TermsTest");
    }
}
