/** "FAULTS of a text, the first by its place, of one place the least code", code by code. */
public final class PlaceTest {
    private static final Trial T = new Trial();
    private static final String WRONG = "\u0080";
    private static final String LONG = Trial.repeat("y", 40);

    /** 1: a byte that is none of 9, 10, 32 .. 126. */
    private static void bytes() {
        for (int b = 0; b < 256; b++) {
            boolean isRight = b == 9 || b == 10 || b >= 32 && b <= 126;
            T.begin();
            T.due("read of a remark with byte " + b, T.read("!!a" + (char) b), isRight ? 0 : -13);
            T.due("fault of it", T.x.fault(), isRight ? 0 : 1);
            T.due("read of a remark within which it is", T.read("!!a" + (char) b + "!!"), isRight ? 1 : -13);
            if (b != 9 && b != 10) {
                int t = isRight ? 2 : -16;
                T.due("read of data with byte " + b, T.read("**a\nxy" + (char) b + "\n*-"), t);
                T.due("read of a first token", T.read("**a\t**a\nx" + (char) b + "y\tx\n*-\t*-"), isRight ? 3 : -19);
                T.due("fault of it", T.x.fault(), isRight ? 0 : 1);
            }
        }
        T.faultIn(1, "@\u007f");
        T.faultIn(1, "!!\n@\u001f\n");
        T.faultIn(1, "**a\n*-\n!!@\r\n");
        T.faultIn(1, "!!\t@\u00ff");
    }

    /** 2: a TOKEN of no byte, at the place behind the 9, or where the LINE begins. */
    private static void noByte() {
        T.faultIn(2, "@\n**a\n");
        T.faultIn(2, "@\t**a\n");
        T.faultIn(2, "**a\t@\t**a\n");
        T.faultIn(2, "**a\t@\n");
        T.faultIn(2, "**a\t@");
        T.faultIn(2, "**a\n@\n*-\n");
        T.faultIn(2, "**a\n@\tx\n*-\n");
        T.faultIn(2, "**a\nx\t@\n*-\n");
        T.faultIn(2, "**a\t**a\nx\t@\n*-\n");
        T.faultIn(2, "**a\t**a\nx\t@\tx\n*-\n");
        T.faultIn(2, "**a\n*-\n@\n");
        T.faultIn(2, "**a\n*-\n!!\n@\t\n");
    }

    /** 2: a TOKEN of more than 40 bytes, at its first byte. */
    private static void tooLong() {
        T.right("**a|**a", "=" + LONG.substring(1) + "|=" + LONG.substring(1), "*-|*-");
        T.fault(2, "**a|**a", "@=" + LONG + "|=", "*-|*-");
        T.fault(2, "**a|**a", "=|@=" + LONG, "*-|*-");
        T.fault(2, "**a", "@" + Trial.repeat("x", 2000), "*-");
        T.faultIn(2, "**a\n@" + LONG + "y");
        T.fault(3, "@**" + LONG.substring(2));
        T.fault(2, "@**" + LONG.substring(1));
        T.fault(3, "**a|@**" + LONG.substring(2));
        T.fault(2, "**a|@**" + LONG.substring(1));
    }

    /** 3: in the first RECORD a TOKEN that is not **KIND. */
    private static void firstRecord() {
        T.fault(3, "@*a");
        T.fault(3, "**a|@*|**a");
        T.fault(3, "!!", "!!", "@*-");
        T.fault(3, Trial.all(11, "**a") + "|@**A");
        T.fault(3, Trial.all(12, "**a") + "|@**A");
        T.fault(3, "@=|**a");
        T.fault(3, "**a|@=");
    }

    /** 4: the first TOKEN that is more than there are STRANDS; a RECORD that has less: at the byte behind the LINE. */
    private static void counts() {
        T.fault(4, "**a", "x|@x|x", "*-");
        T.fault(4, "**a", "x|@" + Trial.all(20, "x"), "*-");
        T.fault(4, "**a", "*-", "@x|x");
        T.fault(4, Trial.all(12, "**a"), Trial.all(12, "x") + "|@x", Trial.all(12, "*-"));
        T.fault(4, "**a|**a", "x@", "*-|*-");
        T.fault(4, Trial.all(12, "**a"), Trial.all(11, "x") + "@", Trial.all(12, "*-"));
        T.faultIn(4, "**a\t**a\nx@");
        T.faultIn(4, "**a\t**a\nx@\n");
        T.fault(4, "**a", "*+", "!!", "*@", "*-|*-");
    }

    /** 5: a TOKEN of another SORT than the first one of its RECORD. */
    private static void sorts() {
        String[] tokens = {"!", "*", "=", "."};
        for (String first : tokens) {
            for (String other : tokens) {
                if (first.equals(other)) {
                    T.right("**a|**a|**a", first + "|" + first + "|" + other, "*-|*-|*-");
                } else {
                    T.fault(5, "**a|**a|**a", first + "|@" + other + "|" + first, "*-|*-|*-");
                    T.fault(5, "**a|**a|**a", first + "|" + first + "|@" + other, "*-|*-|*-");
                }
            }
        }
        T.right("**a|**a", "!|!!", ".|x", "=|==", "*|*!", "*-|*-");
    }

    /** 6: *v. */
    private static void joins() {
        T.fault(6, "**a|**a", "@*v|*", "*-|*-");
        T.fault(6, "**a|**a", "*|@*v", "*-");
        T.fault(6, "**a|**b", "*v|@*v", "*-");
        T.fault(6, "**a|**a|**b", "*v|*v|@*v", "*-");
        T.fault(6, "**a|**b|**a", "*v|@*v|*v", "*-");
        T.fault(6, "**b|**a|**a", "*v|@*v|*v", "*-");
        T.right("**b|**a|**a", "*|*v|*v", "*-|*-");
        T.fault(6, "**a|**a|**b|**b", "*v|*v|@*v|*v", "*-|*-");
        T.fault(6, Trial.all(5, "**a"), "*v|*v|*|@*v|*v", "*-|*-|*-");
        T.fault(6, Trial.all(4, "**a"), "*v|*v|*|@*v", "*-|*-|*-");
        T.right("**a|**b|**a", "*|*x|*x", "*v|*v|*", "*-|*-");
        T.fault(6, "**a|**a|**b", "*|*x|*x", "*v|@*v|*", "*-|*-");
        T.right("**a|**b", "*^|*", "*v|*v|*", "*-|*-");
        T.fault(6, "**a|**b", "*^|*", "*|*v|@*v", "*-|*-");
    }

    /** 6: *x and *+. */
    private static void swapsAndBegins() {
        T.fault(6, "**a|**b", "@*x|*", "*-|*-");
        T.fault(6, "**a|**b", "*|@*x", "*-|*-");
        T.fault(6, "**a|**b|**c", "@*x|*|*x", "*-|*-|*-");
        T.fault(6, "**a|**b|**c", "*x|*x|@*x", "*-|*-|*-");
        T.fault(6, Trial.all(4, "**a"), "*x|*x|*|@*x", Trial.all(4, "*-"));
        T.right("**a|**b|**c", "*+|*x|*x", "*|**d|*|*", Trial.all(4, "*-"));
        T.fault(6, "**a|**b|**c", "*+|*|@*+", "*|**d|*|*|**d", Trial.all(5, "*-"));
        T.fault(6, "**a|**b", "*+|@*+", "*|**d|*|**d", Trial.all(4, "*-"));
    }

    /** 6: one that begins with ** where none may be; one that is not **KIND where that must be. */
    private static void kinds() {
        T.fault(6, "**a|**b", "*|@**a", "*-|*-");
        T.fault(6, "**a|**b", "@**|*", "*-|*-");
        T.fault(6, "**a|**b", "@**x y|*", "*-|*-");
        T.fault(6, "**a", "*+", "@**b|*", "*-|*-");
        T.fault(6, "**a", "*+", "*|@*", "*-|*-");
        T.fault(6, "**a", "*+", "*|@**", "*-|*-");
        T.fault(6, "**a", "*+", "*|@**abcdefghi", "*-|*-");
        T.right("**a", "*+", "*|**abcdefgh", "*-|*-");
        // What a new one begins as does nothing else.
        T.right("**a", "*+", "*+|**a", "*|**b|*", "*-|*-|*-");
        T.right("**a", "*+", "*-|**a", "*-");
    }

    /** 6 is told of TOKENS that have a STRAND. */
    private static void withoutStrand() {
        T.fault(4, "**a|**a", "*v|*v|@*v", "*-");
        T.fault(4, "**a", "*|@*v", "*-");
        T.fault(4, "**a", "*|@*x", "*-");
        T.fault(4, "**a|**b", "*x|*x|@*x", "*-|*-");
        T.fault(4, "**a", "*+|@*+", "*|**b", "*-|*-");
        T.fault(4, "**a", "*|@**b", "*-");
        T.fault(6, "**a", "@*v|*v", "*-");
        T.fault(6, "**a", "@*x|*x", "*-");
        T.fault(4, "**a", "*-", "@*v|*v");
    }

    /** 7: a *^ or *+ that has a STRAND, by which the STRANDS, and all *^ and *+ up to it, are more than 12. */
    private static void tooManyStrands() {
        for (String act : new String[] {"*^", "*+"}) {
            String next = act.equals("*^") ? "*" : "**a";
            T.right(Trial.all(11, "**a"), Trial.but(11, 0, act), Trial.but(12, 1, next), Trial.all(12, "*-"));
            T.right(Trial.all(11, "**a"), Trial.but(11, 10, act), Trial.but(12, 11, next), Trial.all(12, "*-"));
            T.fault(7, Trial.all(12, "**a"), Trial.but(12, 0, "@" + act), Trial.all(13, "*-"));
            T.fault(7, Trial.all(12, "**a"), Trial.but(12, 11, "@" + act), Trial.all(13, "*-"));
            T.fault(7, Trial.all(12, "**a"), Trial.but(12, 10, "*-", "@" + act), Trial.all(12, "*-"));
            T.fault(7, Trial.all(12, "**a"), Trial.but(12, 0, "*v", "*v", "@" + act), Trial.all(12, "*-"));
            T.right(Trial.all(10, "**a"), Trial.but(10, 0, "*^", "*", act), Trial.but(12, 4, next), Trial.all(12, "*-"));
            T.fault(7, Trial.all(11, "**a"), Trial.but(11, 0, "*^", "*", "@" + act), Trial.all(13, "*-"));
        }
        T.right(Trial.all(6, "**a"), Trial.all(6, "*^"), Trial.all(12, "*-"));
        T.fault(7, Trial.all(7, "**a"), Trial.all(5, "*^") + "|@*^|*^", Trial.all(14, "*-"));
        T.fault(7, Trial.all(11, "**a"), Trial.but(11, 0, "*+", "@*^"), Trial.all(13, "*-"));
        T.fault(4, Trial.all(12, "**a"), Trial.all(12, "*") + "|@*^", Trial.all(12, "*-"));
        T.right(Trial.all(12, "**a"), Trial.but(12, 0, "*-"), Trial.but(11, 0, "*^"), Trial.all(12, "*-"));
    }

    /** 7: a 13th TOKEN of the first RECORD; the 201st ROW, at its first byte, ahead of all else of it. */
    private static void tooMany() {
        T.right(Trial.all(12, "**a"), Trial.all(12, "*-"));
        T.fault(7, Trial.all(12, "**a") + "|@**a", Trial.all(13, "*-"));
        T.fault(7, Trial.all(12, "**a") + "|@**a|**A");
        String most = "**a\n" + Trial.repeat("!!\n", 198);
        for (String row : new String[] {"!!", "x", "", "*|*", "\t", WRONG, LONG + LONG, "**a", "=", "!!" + WRONG}) {
            T.faultIn(7, most + "*-\n@" + row + "\n");
            T.faultIn(7, most + "*\n@" + row + "\n*-");
        }
        T.faultIn(7, most + "*-\n@\n");
        T.faultIn(1, most + "*" + "@" + WRONG + "\n!!");
        T.faultIn(4, most + "*\t@*\n!!");
    }

    /** 8: at the end of the text: STRANDS are left. */
    private static void left() {
        T.faultIn(8, "**a@");
        T.faultIn(8, "**a\n@");
        T.faultIn(8, "**a\t**a\n*-\t*\n!!@");
        T.faultIn(8, "**a\n" + Trial.repeat("x\n", 199) + "@");
        T.faultIn(8, "**a\n" + Trial.repeat("!!" + Trial.repeat("x", 97) + "\n", 29) + "!!" + Trial.repeat("x", 94) + "@");
    }

    /** Of one place the least code: a wrong byte ahead of all. */
    private static void wrongByteFirst() {
        T.fault(1, "@" + WRONG + LONG);
        T.fault(1, "@" + WRONG);
        T.fault(1, "**a", "x|@" + WRONG);
        T.fault(1, "**a|**a", "*|@" + WRONG);
        T.fault(1, "**a", "*+", "x|@" + WRONG);
        T.fault(1, Trial.all(12, "**a") + "|@" + WRONG);
    }

    /** Of one place the least code: the others, two by two. */
    private static void leastCode() {
        T.fault(2, "@" + LONG + "y");
        T.fault(2, "**a|@");
        T.fault(2, "**a", "x|@");
        T.fault(2, "**a", "x|@" + LONG + "y");
        T.fault(2, "**a|**a", "x|@*" + LONG);
        T.fault(2, "**a", "@**" + LONG);
        T.fault(2, "**a", "*+", "*|@" + LONG + "y");
        T.fault(2, "**a", "*+", "*|@");
        T.fault(2, Trial.all(12, "**a") + "|@");
        T.fault(2, Trial.all(12, "**a") + "|@**" + LONG);
        T.faultIn(2, "**a\t@");
        T.fault(3, "**a|@!");
        T.fault(3, Trial.all(12, "**a") + "|@**a1");
        T.fault(4, "**a", "x|@=");
        T.fault(4, Trial.all(12, "**a"), Trial.all(12, "*") + "|@*+");
        T.faultIn(4, "**a\t**a\n*-@");
        T.fault(5, "**a", "*+", "*|@x");
        T.fault(5, "**a|**a", "x|@**a");
        T.fault(6, Trial.all(11, "**a"), Trial.but(11, 0, "*+", "@*+"));
    }

    /** The first by its place, whatever its code. */
    private static void firstPlace() {
        T.fault(7, Trial.all(12, "**a") + "|@**a|" + WRONG);
        T.fault(7, Trial.all(12, "**a"), "@*^|" + WRONG);
        T.fault(6, "**a|**a", "@*v|x");
        T.fault(6, "**a|**a", "@**" + WRONG + "|x");
        T.fault(6, "**a|**a|**a", "@*x|*");
        T.fault(5, "**a|**a|**a", "x|@*|");
        T.fault(5, "**a|**a", "x|@*" + WRONG);
        T.fault(4, "**a", "x|@x" + WRONG);
        T.fault(4, "**a|**a", "x@", WRONG);
        T.fault(3, "@*" + WRONG);
        T.fault(3, "**a|@**A|" + WRONG);
        T.fault(2, "@|" + WRONG);
        T.fault(2, "**a", "@" + LONG + WRONG);
        T.fault(1, "**a|**a", "x@" + WRONG + "|*");
        T.fault(3, "@**a" + WRONG + "|x");
        T.fault(1, "**a", "x@" + WRONG + "|x");
    }

    public static void main(String[] args) {
        bytes();
        noByte();
        tooLong();
        firstRecord();
        counts();
        sorts();
        joins();
        swapsAndBegins();
        kinds();
        withoutStrand();
        tooManyStrands();
        tooMany();
        left();
        wrongByteFirst();
        leastCode();
        firstPlace();
        T.end("PlaceTest");
    }
}
