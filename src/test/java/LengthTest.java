import java.util.ArrayList;
import java.util.List;

/** "TIME", sentence by sentence, of RECIPROCALS, SOUNDS and LENGTHS. */
public final class LengthTest {
    private static final Trial T = new Trial();
    private static final int MOST_AT_ONCE = 100;
    private static final int[][] POINTS = {{1, 1}, {3, 2}, {7, 4}, {15, 8}};
    private static final List<String> TOKENS = new ArrayList<>();
    private static final List<int[]> DUE = new ArrayList<>();

    private static int divisor(int a, int b) {
        return b == 0 ? a : divisor(b, a % b);
    }

    /** A TOKEN whose LENGTH is above / below, not yet in lowest terms; above 0: it has none. */
    private static void length(String kind, String token, int above, int below) {
        TOKENS.add(token);
        DUE.add(new int[] {above, below});
        if (TOKENS.size() == MOST_AT_ONCE) {
            ask(kind);
        }
    }

    private static void none(String kind, String... tokens) {
        for (String token : tokens) {
            length(kind, token, 0, 1);
        }
    }

    private static void quarter(String kind, String... tokens) {
        for (String token : tokens) {
            length(kind, token, 1, 4);
        }
    }

    /** All TOKENS that were collected stand in one table of this KIND. */
    private static void ask(String kind) {
        if (TOKENS.isEmpty()) {
            return;
        }
        T.begin();
        T.due("read", T.read("**" + kind + "\n" + String.join("\n", TOKENS) + "\n*-\n"), 0);
        for (int n = 0; n < TOKENS.size(); n++) {
            int r = n + 1;
            int[] due = DUE.get(n);
            String what = kind + " [" + TOKENS.get(n) + "]";
            if (due[0] == 0) {
                T.noState(what, () -> T.x.length(0, r, 0, 0));
            } else {
                int divisor = divisor(due[0], due[1]);
                T.due(what + " above", T.x.length(0, r, 0, 0), due[0] / divisor);
                T.due(what + " below", T.x.length(0, r, 0, 1), due[1] / divisor);
            }
        }
        TOKENS.clear();
        DUE.clear();
    }

    /** A RECIPROCAL with 0 to 3 points behind it: times 3 / 2, 7 / 4, 15 / 8. Four are too many. */
    private static void pointed(String reciprocal, int above, int below) {
        for (int points = 0; points < 4; points++) {
            String text = reciprocal + Trial.repeat(".", points);
            length("recip", text, above * POINTS[points][0], below * POINTS[points][1]);
            length("recip", text + "r", above * POINTS[points][0], below * POINTS[points][1]);
        }
        none("recip", reciprocal + "....", reciprocal + "....r", "." + reciprocal);
    }

    /** 0 (2), 00 (4), 000 (8), n (1 / n), or n%m (m / n). */
    private static void reciprocals() {
        pointed("0", 2, 1);
        pointed("00", 4, 1);
        pointed("000", 8, 1);
        for (int n = 1; n < 1000; n++) {
            length("recip", Integer.toString(n), 1, n);
            length("recip", n + "%7", 7, n);
            length("recip", "7%" + n, n, 7);
        }
        for (String n : new String[] {"1", "9", "10", "99", "100", "999"}) {
            pointed(n, 1, Integer.parseInt(n));
            for (String m : new String[] {"1", "9", "10", "99", "100", "999"}) {
                pointed(n + "%" + m, Integer.parseInt(m), Integer.parseInt(n));
            }
        }
        ask("recip");
    }

    /** n and m are 1 to 3 digits, the first not 0. */
    private static void wrongReciprocals() {
        none("recip", "0000", "00000", "01", "001", "0001", "010", "1000", "9999", "1%1000", "1000%1", "1%", "%1", "%", "1%%1");
        none("recip", "1%0", "1%00", "1%000", "1%01", "0%1", "00%1", "000%1", "1%1%1", "1 ", " 1", "1 %1", "-1", "+1", "1/4");
        none("recip", "r", "rr", "1rr", "r1", "1r1", "1 r", "1r ", "1r.", "1.r.", "1.%1", "1%.1", ".", "..", "...", "x", "1x", "1R");
        none("recip", "4c", "4;", "(4", "4 4", "4r 4r");
        ask("recip");
        for (char b = 32; b < 127; b++) {
            boolean isDigit = b >= '0' && b <= '9';
            if (b != '!' && b != '*' && b != '=') {
                length("recip", b + "", isDigit ? b == '0' ? 2 : 1 : 0, isDigit && b != '0' ? b - '0' : 1);
            }
            int behind = isDigit ? 40 + b - '0' : 4;
            length("recip", "4" + b, isDigit || b == 'r' ? 1 : b == '.' ? 3 : 0, b == '.' ? 8 : behind);
            length("recip", "4%3" + b, isDigit ? 30 + b - '0' : b == 'r' ? 3 : b == '.' ? 9 : 0, b == '.' ? 8 : 4);
        }
        ask("recip");
    }

    /** STRANDS of the KINDS recip and kern have RHYTHM; all others have none. */
    private static void rhythms() {
        for (String kind : new String[] {"reci", "recips", "xrecip", "ker", "kerns", "ekern", "kernkern", "text", "r", "k", "nrek"}) {
            none(kind, "4", "4c", "4r", "0", "1%1");
            ask(kind);
        }
        quarter("recip", "4", "4r");
        ask("recip");
        quarter("kern", "4r", "4c");
        none("kern", "4", "4.", "0");
        ask("kern");
    }

    private static boolean isIn(char b, String bytes) {
        return bytes.indexOf(b) >= 0;
    }

    /** Behind the RECIPROCAL r, or a letter a .. g, A .. G. */
    private static void letters() {
        for (char b = 32; b < 127; b++) {
            boolean isLetter = isIn(b, "abcdefgABCDEFG");
            length("kern", "4" + b, isLetter || b == 'r' ? 1 : 0, 4);
            length("kern", "4.." + b + ";", isLetter || b == 'r' ? 7 : 0, 16);
            if (isLetter) {
                quarter("kern", "4" + b + b, "4" + b + b + b, "4" + b + b + b + b, "4" + b + b + b + b + "#)");
                none("kern", "4" + b + b + b + b + b, "4" + b + b + b + b + b + "#)");
            }
        }
        none("kern", "4cC", "4Cc", "4cd", "4ccd", "4cccC", "4cccd", "4rr", "4rc", "4cr", "4 c", "c", "r", "c4", "4", "cc", "4%c");
        ask("kern");
    }

    /** Behind the letter #, ##, -, --, n or nothing; not behind r. */
    private static void accidentals() {
        quarter("kern", "4c", "4c#", "4c##", "4c-", "4c--", "4cn", "4gggg##", "4GGGG--", "4aan", "4c#;", "4c--)", "4cn_");
        none("kern", "4c###", "4c---", "4cnn", "4c#-", "4c-#", "4c#n", "4c-n", "4cn#", "4cn-", "4c##-", "4c--n", "4cN", "4c+");
        none("kern", "4r#", "4r##", "4r-", "4r--", "4rn", "4c#c", "4c;#", "4#", "4#c", "4n", "4-c");
        ask("kern");
    }

    /** Ahead any number of ( [ {, and behind any number of ) ] } _ ; of all bytes. */
    private static void openingAndClosing() {
        for (char b = 32; b < 127; b++) {
            boolean opens = isIn(b, "([{");
            boolean closes = isIn(b, ")]}_;");
            boolean isDigit = b >= '1' && b <= '9';
            if (!isIn(b, "!*=")) {
                length("kern", b + "4c", opens || isDigit ? 1 : 0, isDigit ? 10 * (b - '0') + 4 : 4);
                length("kern", b + "4r", opens || isDigit ? 1 : 0, isDigit ? 10 * (b - '0') + 4 : 4);
            }
            length("kern", "([{" + b + "4c", opens || isDigit ? 1 : 0, isDigit ? 10 * (b - '0') + 4 : 4);
            length("kern", "4c" + b, closes || isIn(b, "#-nc") ? 1 : 0, 4);
            length("kern", "4r" + b, closes ? 1 : 0, 4);
            length("kern", "4e)" + b, closes ? 1 : 0, 4);
            length("kern", "4e##" + b, closes ? 1 : 0, 4);
        }
        quarter("kern", Trial.repeat("(", 38) + "4c", "4c" + Trial.repeat("]", 38), Trial.repeat("{", 19) + "4c" + Trial.repeat("_", 19));
        quarter("kern", "([{{[(4c)]};;__", "(4r)", "[4r;");
        none("kern", "4(c", "4c(", "(4c(", "(", "()", "(c)", ")4c", ";4c", "_4c", "4)c", "4c) ;", "( 4c");
        ask("kern");
    }

    /** SOUNDS with one byte 32 between. */
    private static void sounds() {
        quarter("kern", "4c 4d", "4c 4c", "4c 4d 4e", "4r 4c", "4c 4r", "4r 4r", "(4c) [4d# {4ee--;", Trial.repeat("4c ", 12) + "4c");
        none("kern", "4c  4d", " 4c", "4c ", " ", "4c d", "c 4d", "4c 4", "4 4c", "4c,4d", "4c4d", "4c .", ". 4c", "4c 4d ", Trial.repeat("4c ", 12) + "4");
        ask("kern");
    }

    /** All RECIPROCALS of the SOUNDS tell one LENGTH. */
    private static void oneLength() {
        quarter("kern", "4c 8%2d", "4c 12%3d 16%4e", "8%2r 4r");
        none("kern", "4c 8d", "8c 4d", "4c 4d 8e", "4c 8d 4e", "8c 4d 4e", "4c 4.d", "4c 4%2d", "4c 8r");
        length("kern", "2.c 4%3d", 3, 4);
        length("kern", "0c 1%2d", 2, 1);
        length("kern", "00.r 1%6A 000%1", 0, 1);
        length("kern", "00.r 1%6A", 6, 1);
        length("kern", "000...C", 15, 1);
        length("kern", "1%999...C", 14985, 8);
        length("kern", "999%1...C", 15, 7992);
        ask("kern");
    }

    public static void main(String[] args) {
        reciprocals();
        wrongReciprocals();
        rhythms();
        letters();
        accidentals();
        openingAndClosing();
        sounds();
        oneLength();
        T.end("LengthTest");
    }
}
