/** Promises 4 and 5: what a text may be, and the FAULTS with their places. */
public final class FaultTest {
    private static final Trial T = new Trial();
    private static final String FORTY = Trial.repeat("a", 40);

    /** The place of the FAULT is marked by @; a last row of @ alone is the end of the text. */
    private static void fault(int code, String... rows) {
        String text = Trial.rows(rows);
        if (rows[rows.length - 1].equals("@")) {
            text = text.substring(0, text.length() - 1);
        }
        faultIn(code, text);
    }

    private static void faultIn(int code, String text) {
        int place = text.indexOf('@');
        T.dueFault(text.substring(0, place) + text.substring(place + 1), code, place);
    }

    private static void right(String... rows) {
        T.dueRight(Trial.rows(rows));
    }

    private static void bytes() {
        T.begin();
        T.dueRight("!!\t ~");
        faultIn(1, "!!a@\u007f");
        faultIn(1, "!!@\u001f");
        faultIn(1, "!!x\n!!y\t@\u00ff");
        faultIn(1, "!!@\r\n");
        faultIn(1, "@\u0000");
        fault(1, "**kern", "@\u00804c");
        fault(1, "**kern", "4c@\u0080");
        fault(1, "**kern|**kern", "4c@\u0080|=");
    }

    /** The TOKEN's first byte comes ahead of the bytes within it; at one place the least code counts. */
    private static void bytesAndOthers() {
        T.begin();
        fault(3, "@*\u0080");
        fault(1, "@\u0080*");
        fault(4, "**kern", "4c|@x\u0080");
        fault(1, "**kern", "4c|@\u0080");
        fault(2, "**kern", "@" + FORTY + "\u0080");
        fault(1, "**kern", "@\u0080" + FORTY);
        fault(1, "**kern|**kern", "4c|@\u0080");
    }

    private static void tokens() {
        T.begin();
        faultIn(2, "@\n");
        faultIn(2, "!!a\n@\n");
        faultIn(2, "@\t");
        faultIn(2, "**kern\t@");
        faultIn(2, "**kern\n@\n");
        faultIn(2, "**kern\n@\n*-\n");
        fault(2, "**kern", "@|4c");
        fault(2, "**kern", "4c|@");
        fault(2, "**kern|**kern", "4c|@|4d");
        right("**text|**kern", FORTY + "|4c", "*-|*-");
        fault(2, "**text|**kern", "@" + FORTY + "a|4c");
        fault(2, "**kern|**text", "4c|@" + FORTY + "a");
        fault(2, "@**" + FORTY);
        fault(3, "@**" + FORTY.substring(2));
        faultIn(2, "**a\t**a\t**a\nx\t@");
        fault(2, "**kern", "*-", "@", "x");
        right("!!" + FORTY + FORTY);
    }

    private static void firstRecord() {
        T.begin();
        right("**a", "*-");
        right("**abcdefgh|**kern", "*-|*-");
        right("**az|**za", "*-|*-");
        String[] wrongs = {"**", "**abcdefghi", "**Kern", "**k1", "*kern", "4c", "!x", "=", "***", "**a ", "*", "**{", "**`"};
        for (String wrong : wrongs) {
            fault(3, "@" + wrong);
            fault(3, "**kern|@" + wrong);
        }
        fault(3, "!!x", "@!x", "**kern");
        String twelve = "**a" + Trial.repeat("|**a", 11);
        right(twelve, "*-" + Trial.repeat("|*-", 11));
        fault(7, twelve + "|@**a|**a", "x");
        fault(3, twelve + "|@x");
        fault(2, twelve + "|@");
        fault(8, twelve, "@");
        fault(3, "**a|@x" + Trial.repeat("|**a", 11));
    }

    private static void counts() {
        T.begin();
        fault(4, "**kern", "4c|@4d|4e");
        fault(4, "**kern", "4c|@=");
        fault(4, "**kern|**kern", "4c@", "*-|*-");
        faultIn(4, "**kern\t**kern\n4c@");
        fault(4, "**kern", "*-", "@4c");
        fault(4, "**kern", "*-", "@**kern");
        fault(4, "**kern", "*^", "4c@");
        fault(4, "**kern|**kern", "*v|*v", "4c|@4d");
        fault(4, "**kern|**text", "*-|*", "4c|@x");
        fault(4, "**kern", "*+", "*@");
        right("**kern", "*-", "!!x", "!!");
        right("**kern|**kern", "*v|*v", "4c", "*-");
        right("**kern|**text", "*-|*", "x", "*-");
    }

    private static void sorts() {
        T.begin();
        fault(5, "**kern|**kern", "4c|@*");
        fault(5, "**kern|**kern", "!|@4c");
        fault(5, "**kern|**kern", "=|@!");
        fault(5, "**kern|**kern", "*|@=");
        fault(5, "**kern|**kern", ".|@*-");
        fault(5, "**kern|**kern", "4c|@**kern");
        fault(5, "**kern", "*+", "4c|@**kern");
        right("**kern|**kern", "!|!!x", "=|==", ".|x*", "*-|*-");
    }

    private static void joins() {
        T.begin();
        String three = "**kern|**kern|**kern";
        right(three, "*v|*v|*v", "*-");
        right(three, "*|*v|*v", "*-|*-");
        fault(6, three, "*|@*v|*");
        fault(6, three, "*|*|@*v");
        fault(6, three, "@*v|*|*v");
        fault(6, three, "@*v|*vv|*");
        fault(6, three + "|**kern|**kern", "*v|*v|*|@*v|*v");
        fault(6, "**kern|**kern|**text|**text", "*v|*v|@*v|*v");
        fault(6, "**text|**kern|**kern", "*v|@*v|*v");
        fault(6, "**kern", "*^", "@*v|*");
        right("**text|**kern", "*|*^", "*x|*x|*", "*x|*x|*", "*|*v|*v", "*-|*-");
        // A *v behind it that has no STRAND is none.
        fault(6, "**kern", "@*v|*v");
    }

    private static void swaps() {
        T.begin();
        String four = "**a|**b|**c|**d";
        String end = "*-|*-|*-|*-";
        right(four, "*|*x|*x|*", end);
        fault(6, four, "@*x|*|*x|*");
        fault(6, four, "*|*|*|@*x");
        fault(6, four, "*x|*x|@*x|*x");
        fault(6, four, "*x|*x|*|@*x");
        fault(6, "**a", "@*x|*x");
        // What changes places carries its KIND along.
        right("**a|**b|**a", "*|*x|*x", "*v|*v|*", "*-|*-");
        fault(6, "**a|**a|**b", "*|*x|*x", "*v|@*v|*");
    }

    private static void begins() {
        T.begin();
        right("**a|**b", "*|*+", "*|*|**c", "*-|*-|*-");
        right("**a", "*+", "!!x", "!!y", "*+|**a", "*|**b|*", "*-|*-|*-");
        right("**a|**b", "*+|*-", "*-|**c", "*-");
        fault(6, "**a|**b", "*+|@*+");
        fault(6, "**a", "@**a", "*-");
        fault(6, "**a", "@**", "*-");
        fault(6, "**a", "@**A", "*-");
        fault(6, "**a", "*+", "*|@*", "*-|*-");
        fault(6, "**a", "*+", "*|@**A", "*-|*-");
        fault(6, "**a", "*+", "!|@!", "*-|*-");
        fault(6, "**a", "*+", "=|@=", "*-|*-");
        fault(6, "**a", "*+", "@**a|**a", "*-|*-");
        fault(6, "**a", "*+", "*|**a", "*|@**a");
        fault(6, "**a|**a", "*+|*", "*v|@*v|*v");
        fault(8, "**a", "*+", "@");
    }

    private static void tooManyStrands() {
        T.begin();
        String eleven = "**a" + Trial.repeat("|**a", 10);
        String stay = Trial.repeat("|*", 9);
        right(eleven, "*^" + stay + "|*", "*-" + Trial.repeat("|*-", 11));
        fault(7, eleven, "*^" + stay + "|@*^");
        fault(7, eleven, "*^" + stay + "|@*+");
        fault(7, eleven, "*+" + stay + "|@*^");
        fault(6, eleven, "*+" + stay + "|@*+");
        // What ends or joins in the same RECORD makes no room.
        fault(7, eleven + "|**a", "*-" + stay + "|*-|@*^");
        fault(7, eleven + "|**a", "*v|*v|@*^" + stay);
        fault(4, "**a", "*^|@" + Trial.repeat("*^|", 11) + "*^");
    }

    private static void tooManyRows() {
        T.begin();
        String most = Trial.repeat("!!\n", 198);
        T.dueRight("**a\n" + most + "*-\n");
        T.dueRight("**a\n" + most + "*-");
        faultIn(7, "**a\n" + most + "*-\n@!!\n");
        faultIn(7, "**a\n" + most + "*-\n@\n");
        faultIn(7, "**a\n" + most + "*-\n@4c");
        faultIn(7, "**a\n" + most + "*-\n@\u0080");
        faultIn(7, "**a\n" + most + "x\n@*-");
        faultIn(8, "**a\n" + most + "x\n@");
        faultIn(4, "**a\n" + most + "x\t@y\n!!");
    }

    private static void ends() {
        T.begin();
        // What was cut off is not looked at.
        T.tape("!!");
        T.x.cut(1);
        T.due("read of one !", T.x.read(), -10);
        T.due("fault of one !", T.x.fault(), 3);
        T.tape("**kern\n*-\n*-");
        T.x.cut(9);
        T.due("read of what is left", T.x.read(), 0);
        T.due("bytes of it", T.x.told(0, 6), 10);
        T.begin();
        T.dueRight("");
        T.dueRight("!!");
        T.dueRight("!!\n!!x");
        fault(8, "**a", "@");
        fault(8, "**a|**b", "*-|*", "@");
        fault(8, "**a", "*^", "@");
        faultIn(8, "**a@");
    }

    public static void main(String[] args) {
        bytes();
        bytesAndOthers();
        tokens();
        firstRecord();
        counts();
        sorts();
        joins();
        swaps();
        begins();
        tooManyStrands();
        tooManyRows();
        ends();
        T.end("FaultTest");
    }
}
